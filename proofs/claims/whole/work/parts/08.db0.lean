theorem dX7_init_0 : decode cX7_init 0 = .ok (.aload_n 0, 1) := by decide +kernel
theorem dX7_init_1 : decode cX7_init 1 = .ok (.invokespecial 1, 3) := by decide +kernel
theorem dX7_init_4 : decode cX7_init 4 = .ok (.aload_n 0, 1) := by decide +kernel
theorem dX7_init_5 : decode cX7_init 5 = .ok (.new 7, 3) := by decide +kernel
theorem dX7_init_8 : decode cX7_init 8 = .ok (.dup, 1) := by decide +kernel
theorem dX7_init_9 : decode cX7_init 9 = .ok (.invokespecial 9, 3) := by decide +kernel
theorem dX7_init_12 : decode cX7_init 12 = .ok (.putfield 10, 3) := by decide +kernel
theorem dX7_init_15 : decode cX7_init 15 = .ok (.aload_n 0, 1) := by decide +kernel
theorem dX7_init_16 : decode cX7_init 16 = .ok (.new 16, 3) := by decide +kernel
theorem dX7_init_19 : decode cX7_init 19 = .ok (.dup, 1) := by decide +kernel
theorem dX7_init_20 : decode cX7_init 20 = .ok (.invokespecial 18, 3) := by decide +kernel
theorem dX7_init_23 : decode cX7_init 23 = .ok (.putfield 19, 3) := by decide +kernel
theorem dX7_init_26 : decode cX7_init 26 = .ok (.aload_n 0, 1) := by decide +kernel
theorem dX7_init_27 : decode cX7_init 27 = .ok (.new 23, 3) := by decide +kernel
theorem dX7_init_30 : decode cX7_init 30 = .ok (.dup, 1) := by decide +kernel
theorem dX7_init_31 : decode cX7_init 31 = .ok (.invokespecial 25, 3) := by decide +kernel
theorem dX7_init_34 : decode cX7_init 34 = .ok (.putfield 26, 3) := by decide +kernel
theorem dX7_init_37 : decode cX7_init 37 = .ok (.aload_n 0, 1) := by decide +kernel
theorem dX7_init_38 : decode cX7_init 38 = .ok (.new 30, 3) := by decide +kernel
theorem dX7_init_41 : decode cX7_init 41 = .ok (.dup, 1) := by decide +kernel
theorem dX7_init_42 : decode cX7_init 42 = .ok (.invokespecial 32, 3) := by decide +kernel
theorem dX7_init_45 : decode cX7_init 45 = .ok (.putfield 33, 3) := by decide +kernel
theorem dX7_init_48 : decode cX7_init 48 = .ok (.aload_n 0, 1) := by decide +kernel
theorem dX7_init_49 : decode cX7_init 49 = .ok (.new 37, 3) := by decide +kernel
theorem dX7_init_52 : decode cX7_init 52 = .ok (.dup, 1) := by decide +kernel
theorem dX7_init_53 : decode cX7_init 53 = .ok (.invokespecial 39, 3) := by decide +kernel
theorem dX7_init_56 : decode cX7_init 56 = .ok (.putfield 40, 3) := by decide +kernel
theorem dX7_init_59 : decode cX7_init 59 = .ok (.aload_n 0, 1) := by decide +kernel
theorem dX7_init_60 : decode cX7_init 60 = .ok (.bipush 64, 2) := by decide +kernel
theorem dX7_init_62 : decode cX7_init 62 = .ok (.newarray .int, 2) := by decide +kernel
theorem dX7_init_64 : decode cX7_init 64 = .ok (.putfield 46, 3) := by decide +kernel
theorem dX7_init_67 : decode cX7_init 67 = .ok (.aload_n 0, 1) := by decide +kernel
theorem dX7_init_68 : decode cX7_init 68 = .ok (.new 44, 3) := by decide +kernel
theorem dX7_init_71 : decode cX7_init 71 = .ok (.dup, 1) := by decide +kernel
theorem dX7_init_72 : decode cX7_init 72 = .ok (.invokespecial 50, 3) := by decide +kernel
theorem dX7_init_75 : decode cX7_init 75 = .ok (.putfield 51, 3) := by decide +kernel
theorem dX7_init_78 : decode cX7_init 78 = .ok (.aload_n 0, 1) := by decide +kernel
theorem dX7_init_79 : decode cX7_init 79 = .ok (.new 44, 3) := by decide +kernel
theorem dX7_init_82 : decode cX7_init 82 = .ok (.dup, 1) := by decide +kernel
theorem dX7_init_83 : decode cX7_init 83 = .ok (.invokespecial 50, 3) := by decide +kernel
theorem dX7_init_86 : decode cX7_init 86 = .ok (.putfield 55, 3) := by decide +kernel
theorem dX7_init_89 : decode cX7_init 89 = .ok (.aload_n 0, 1) := by decide +kernel
theorem dX7_init_90 : decode cX7_init 90 = .ok (.new 58, 3) := by decide +kernel
theorem dX7_init_93 : decode cX7_init 93 = .ok (.dup, 1) := by decide +kernel
theorem dX7_init_94 : decode cX7_init 94 = .ok (.aload_n 0, 1) := by decide +kernel
theorem dX7_init_95 : decode cX7_init 95 = .ok (.getfield 10, 3) := by decide +kernel
theorem dX7_init_98 : decode cX7_init 98 = .ok (.getfield 60, 3) := by decide +kernel
theorem dX7_init_101 : decode cX7_init 101 = .ok (.aload_n 0, 1) := by decide +kernel
theorem dX7_init_102 : decode cX7_init 102 = .ok (.getfield 55, 3) := by decide +kernel
theorem dX7_init_105 : decode cX7_init 105 = .ok (.invokespecial 63, 3) := by decide +kernel
theorem dX7_init_108 : decode cX7_init 108 = .ok (.putfield 66, 3) := by decide +kernel
theorem dX7_init_111 : decode cX7_init 111 = .ok (.return_, 1) := by decide +kernel
theorem dX7_feed_0 : decode cX7_feed 0 = .ok (.aload_n 0, 1) := by decide +kernel
theorem dX7_feed_1 : decode cX7_feed 1 = .ok (.getfield 10, 3) := by decide +kernel
theorem dX7_feed_4 : decode cX7_feed 4 = .ok (.bipush 20, 2) := by decide +kernel
theorem dX7_feed_6 : decode cX7_feed 6 = .ok (.invokevirtual 70, 3) := by decide +kernel
theorem dX7_feed_9 : decode cX7_feed 9 = .ok (.ifCond .ne 5, 3) := by decide +kernel
theorem dX7_feed_12 : decode cX7_feed 12 = .ok (.iconst (-1), 1) := by decide +kernel
theorem dX7_feed_13 : decode cX7_feed 13 = .ok (.ireturn, 1) := by decide +kernel
theorem dX7_feed_14 : decode cX7_feed 14 = .ok (.aload_n 0, 1) := by decide +kernel
theorem dX7_feed_15 : decode cX7_feed 15 = .ok (.getfield 10, 3) := by decide +kernel
theorem dX7_feed_18 : decode cX7_feed 18 = .ok (.iload_n 1, 1) := by decide +kernel
theorem dX7_feed_19 : decode cX7_feed 19 = .ok (.invokevirtual 74, 3) := by decide +kernel
theorem dX7_feed_22 : decode cX7_feed 22 = .ok (.aload_n 0, 1) := by decide +kernel
theorem dX7_feed_23 : decode cX7_feed 23 = .ok (.getfield 10, 3) := by decide +kernel
theorem dX7_feed_26 : decode cX7_feed 26 = .ok (.iload_n 2, 1) := by decide +kernel
theorem dX7_feed_27 : decode cX7_feed 27 = .ok (.invokevirtual 74, 3) := by decide +kernel
theorem dX7_feed_30 : decode cX7_feed 30 = .ok (.aload_n 0, 1) := by decide +kernel
theorem dX7_feed_31 : decode cX7_feed 31 = .ok (.getfield 10, 3) := by decide +kernel
theorem dX7_feed_34 : decode cX7_feed 34 = .ok (.iload_n 3, 1) := by decide +kernel
theorem dX7_feed_35 : decode cX7_feed 35 = .ok (.invokevirtual 74, 3) := by decide +kernel
theorem dX7_feed_38 : decode cX7_feed 38 = .ok (.aload_n 0, 1) := by decide +kernel
theorem dX7_feed_39 : decode cX7_feed 39 = .ok (.getfield 10, 3) := by decide +kernel
theorem dX7_feed_42 : decode cX7_feed 42 = .ok (.iload 4, 2) := by decide +kernel
theorem dX7_feed_44 : decode cX7_feed 44 = .ok (.invokevirtual 74, 3) := by decide +kernel
theorem dX7_feed_47 : decode cX7_feed 47 = .ok (.aload_n 0, 1) := by decide +kernel
theorem dX7_feed_48 : decode cX7_feed 48 = .ok (.getfield 10, 3) := by decide +kernel
theorem dX7_feed_51 : decode cX7_feed 51 = .ok (.iload 5, 2) := by decide +kernel
theorem dX7_feed_53 : decode cX7_feed 53 = .ok (.invokevirtual 74, 3) := by decide +kernel
theorem dX7_feed_56 : decode cX7_feed 56 = .ok (.aload_n 0, 1) := by decide +kernel
theorem dX7_feed_57 : decode cX7_feed 57 = .ok (.getfield 10, 3) := by decide +kernel
theorem dX7_feed_60 : decode cX7_feed 60 = .ok (.getfield 78, 3) := by decide +kernel
theorem dX7_feed_63 : decode cX7_feed 63 = .ok (.ireturn, 1) := by decide +kernel
theorem dX7_text_0 : decode cX7_text 0 = .ok (.iload_n 1, 1) := by decide +kernel
theorem dX7_text_1 : decode cX7_text 1 = .ok (.ifCond .lt 14, 3) := by decide +kernel
theorem dX7_text_4 : decode cX7_text 4 = .ok (.iload_n 1, 1) := by decide +kernel
theorem dX7_text_5 : decode cX7_text 5 = .ok (.aload_n 0, 1) := by decide +kernel
theorem dX7_text_6 : decode cX7_text 6 = .ok (.getfield 10, 3) := by decide +kernel
theorem dX7_text_9 : decode cX7_text 9 = .ok (.getfield 78, 3) := by decide +kernel
theorem dX7_text_12 : decode cX7_text 12 = .ok (.if_icmp .le 6, 3) := by decide +kernel
theorem dX7_text_15 : decode cX7_text 15 = .ok (.bipush (-2), 2) := by decide +kernel
theorem dX7_text_17 : decode cX7_text 17 = .ok (.ireturn, 1) := by decide +kernel
theorem dX7_text_18 : decode cX7_text 18 = .ok (.aload_n 0, 1) := by decide +kernel
theorem dX7_text_19 : decode cX7_text 19 = .ok (.getfield 10, 3) := by decide +kernel
theorem dX7_text_22 : decode cX7_text 22 = .ok (.iconst 0, 1) := by decide +kernel
theorem dX7_text_23 : decode cX7_text 23 = .ok (.putfield 78, 3) := by decide +kernel
theorem dX7_text_26 : decode cX7_text 26 = .ok (.aload_n 0, 1) := by decide +kernel
theorem dX7_text_27 : decode cX7_text 27 = .ok (.getfield 66, 3) := by decide +kernel
theorem dX7_text_30 : decode cX7_text 30 = .ok (.iload_n 1, 1) := by decide +kernel
theorem dX7_text_31 : decode cX7_text 31 = .ok (.aload_n 0, 1) := by decide +kernel
theorem dX7_text_32 : decode cX7_text 32 = .ok (.getfield 55, 3) := by decide +kernel
theorem dX7_text_35 : decode cX7_text 35 = .ok (.invokevirtual 82, 3) := by decide +kernel
theorem dX7_text_38 : decode cX7_text 38 = .ok (.ifCond .ne 5, 3) := by decide +kernel
theorem dX7_text_41 : decode cX7_text 41 = .ok (.iconst (-1), 1) := by decide +kernel
theorem dX7_text_42 : decode cX7_text 42 = .ok (.ireturn, 1) := by decide +kernel
theorem dX7_text_43 : decode cX7_text 43 = .ok (.aload_n 0, 1) := by decide +kernel
theorem dX7_text_44 : decode cX7_text 44 = .ok (.getfield 51, 3) := by decide +kernel
theorem dX7_text_47 : decode cX7_text 47 = .ok (.astore_n 2, 1) := by decide +kernel
theorem dX7_text_48 : decode cX7_text 48 = .ok (.aload_n 0, 1) := by decide +kernel
theorem dX7_text_49 : decode cX7_text 49 = .ok (.aload_n 0, 1) := by decide +kernel
theorem dX7_text_50 : decode cX7_text 50 = .ok (.getfield 55, 3) := by decide +kernel
theorem dX7_text_53 : decode cX7_text 53 = .ok (.putfield 51, 3) := by decide +kernel
theorem dX7_text_56 : decode cX7_text 56 = .ok (.aload_n 0, 1) := by decide +kernel
theorem dX7_text_57 : decode cX7_text 57 = .ok (.aload_n 2, 1) := by decide +kernel
theorem dX7_text_58 : decode cX7_text 58 = .ok (.putfield 55, 3) := by decide +kernel
theorem dX7_text_61 : decode cX7_text 61 = .ok (.aload_n 0, 1) := by decide +kernel
theorem dX7_text_62 : decode cX7_text 62 = .ok (.getfield 19, 3) := by decide +kernel
theorem dX7_text_65 : decode cX7_text 65 = .ok (.iconst 0, 1) := by decide +kernel
theorem dX7_text_66 : decode cX7_text 66 = .ok (.putfield 86, 3) := by decide +kernel
theorem dX7_text_69 : decode cX7_text 69 = .ok (.aload_n 0, 1) := by decide +kernel
theorem dX7_text_70 : decode cX7_text 70 = .ok (.getfield 51, 3) := by decide +kernel
theorem dX7_text_73 : decode cX7_text 73 = .ok (.getfield 87, 3) := by decide +kernel
theorem dX7_text_76 : decode cX7_text 76 = .ok (.ireturn, 1) := by decide +kernel
theorem dX7_fault_0 : decode cX7_fault 0 = .ok (.iload_n 1, 1) := by decide +kernel
theorem dX7_fault_1 : decode cX7_fault 1 = .ok (.ifCond .ne 11, 3) := by decide +kernel
theorem dX7_fault_4 : decode cX7_fault 4 = .ok (.aload_n 0, 1) := by decide +kernel
theorem dX7_fault_5 : decode cX7_fault 5 = .ok (.getfield 66, 3) := by decide +kernel
theorem dX7_fault_8 : decode cX7_fault 8 = .ok (.getfield 90, 3) := by decide +kernel
theorem dX7_fault_11 : decode cX7_fault 11 = .ok (.ireturn, 1) := by decide +kernel
theorem dX7_fault_12 : decode cX7_fault 12 = .ok (.iload_n 1, 1) := by decide +kernel
theorem dX7_fault_13 : decode cX7_fault 13 = .ok (.iconst 1, 1) := by decide +kernel
theorem dX7_fault_14 : decode cX7_fault 14 = .ok (.if_icmp .ne 13, 3) := by decide +kernel
theorem dX7_fault_17 : decode cX7_fault 17 = .ok (.aload_n 0, 1) := by decide +kernel
theorem dX7_fault_18 : decode cX7_fault 18 = .ok (.getfield 66, 3) := by decide +kernel
theorem dX7_fault_21 : decode cX7_fault 21 = .ok (.getfield 93, 3) := by decide +kernel
theorem dX7_fault_24 : decode cX7_fault 24 = .ok (.goto 4, 3) := by decide +kernel
theorem dX7_fault_27 : decode cX7_fault 27 = .ok (.iconst (-1), 1) := by decide +kernel
theorem dX7_fault_28 : decode cX7_fault 28 = .ok (.ireturn, 1) := by decide +kernel
theorem dX7_element_0 : decode cX7_element 0 = .ok (.aload_n 0, 1) := by decide +kernel
theorem dX7_element_1 : decode cX7_element 1 = .ok (.iload_n 1, 1) := by decide +kernel
theorem dX7_element_2 : decode cX7_element 2 = .ok (.invokevirtual 96, 3) := by decide +kernel
theorem dX7_element_5 : decode cX7_element 5 = .ok (.ifCond .ne 13, 3) := by decide +kernel
theorem dX7_element_8 : decode cX7_element 8 = .ok (.new 99, 3) := by decide +kernel
theorem dX7_element_11 : decode cX7_element 11 = .ok (.dup, 1) := by decide +kernel
theorem dX7_element_12 : decode cX7_element 12 = .ok (.ldc 101, 2) := by decide +kernel
theorem dX7_element_14 : decode cX7_element 14 = .ok (.invokespecial 103, 3) := by decide +kernel
theorem dX7_element_17 : decode cX7_element 17 = .ok (.athrow, 1) := by decide +kernel
theorem dX7_element_18 : decode cX7_element 18 = .ok (.iload_n 2, 1) := by decide +kernel
theorem dX7_element_19 : decode cX7_element 19 = .ok (.tableswitch 143 0 7 #[45, 55, 73, 82, 91, 101, 111, 134], 45) := by decide +kernel
theorem dX7_element_64 : decode cX7_element 64 = .ok (.aload_n 0, 1) := by decide +kernel
theorem dX7_element_65 : decode cX7_element 65 = .ok (.getfield 51, 3) := by decide +kernel
theorem dX7_element_68 : decode cX7_element 68 = .ok (.getfield 106, 3) := by decide +kernel
theorem dX7_element_71 : decode cX7_element 71 = .ok (.iload_n 1, 1) := by decide +kernel
theorem dX7_element_72 : decode cX7_element 72 = .ok (.iaload, 1) := by decide +kernel
theorem dX7_element_73 : decode cX7_element 73 = .ok (.ireturn, 1) := by decide +kernel
theorem dX7_element_74 : decode cX7_element 74 = .ok (.aload_n 0, 1) := by decide +kernel
theorem dX7_element_75 : decode cX7_element 75 = .ok (.getfield 51, 3) := by decide +kernel
theorem dX7_element_78 : decode cX7_element 78 = .ok (.getfield 109, 3) := by decide +kernel
theorem dX7_element_81 : decode cX7_element 81 = .ok (.iload_n 1, 1) := by decide +kernel
theorem dX7_element_82 : decode cX7_element 82 = .ok (.baload, 1) := by decide +kernel
theorem dX7_element_83 : decode cX7_element 83 = .ok (.ifCond .eq 7, 3) := by decide +kernel
theorem dX7_element_86 : decode cX7_element 86 = .ok (.iconst 1, 1) := by decide +kernel
theorem dX7_element_87 : decode cX7_element 87 = .ok (.goto 4, 3) := by decide +kernel
theorem dX7_element_90 : decode cX7_element 90 = .ok (.iconst 0, 1) := by decide +kernel
theorem dX7_element_91 : decode cX7_element 91 = .ok (.ireturn, 1) := by decide +kernel
theorem dX7_element_92 : decode cX7_element 92 = .ok (.aload_n 0, 1) := by decide +kernel
theorem dX7_element_93 : decode cX7_element 93 = .ok (.getfield 51, 3) := by decide +kernel
theorem dX7_element_96 : decode cX7_element 96 = .ok (.iload_n 1, 1) := by decide +kernel
theorem dX7_element_97 : decode cX7_element 97 = .ok (.invokevirtual 113, 3) := by decide +kernel
theorem dX7_element_100 : decode cX7_element 100 = .ok (.ireturn, 1) := by decide +kernel
theorem dX7_element_101 : decode cX7_element 101 = .ok (.aload_n 0, 1) := by decide +kernel
theorem dX7_element_102 : decode cX7_element 102 = .ok (.getfield 51, 3) := by decide +kernel
theorem dX7_element_105 : decode cX7_element 105 = .ok (.iload_n 1, 1) := by decide +kernel
theorem dX7_element_106 : decode cX7_element 106 = .ok (.invokevirtual 117, 3) := by decide +kernel
theorem dX7_element_109 : decode cX7_element 109 = .ok (.ireturn, 1) := by decide +kernel
theorem dX7_element_110 : decode cX7_element 110 = .ok (.aload_n 0, 1) := by decide +kernel
theorem dX7_element_111 : decode cX7_element 111 = .ok (.getfield 51, 3) := by decide +kernel
theorem dX7_element_114 : decode cX7_element 114 = .ok (.iload_n 1, 1) := by decide +kernel
theorem dX7_element_115 : decode cX7_element 115 = .ok (.iconst 0, 1) := by decide +kernel
theorem dX7_element_116 : decode cX7_element 116 = .ok (.invokevirtual 120, 3) := by decide +kernel
theorem dX7_element_119 : decode cX7_element 119 = .ok (.ireturn, 1) := by decide +kernel
theorem dX7_element_120 : decode cX7_element 120 = .ok (.aload_n 0, 1) := by decide +kernel
theorem dX7_element_121 : decode cX7_element 121 = .ok (.getfield 51, 3) := by decide +kernel
theorem dX7_element_124 : decode cX7_element 124 = .ok (.getfield 124, 3) := by decide +kernel
theorem dX7_element_127 : decode cX7_element 127 = .ok (.iload_n 1, 1) := by decide +kernel
theorem dX7_element_128 : decode cX7_element 128 = .ok (.iaload, 1) := by decide +kernel
theorem dX7_element_129 : decode cX7_element 129 = .ok (.ireturn, 1) := by decide +kernel
theorem dX7_element_130 : decode cX7_element 130 = .ok (.aload_n 0, 1) := by decide +kernel
theorem dX7_element_131 : decode cX7_element 131 = .ok (.iload_n 1, 1) := by decide +kernel
theorem dX7_element_132 : decode cX7_element 132 = .ok (.invokevirtual 127, 3) := by decide +kernel
theorem dX7_element_135 : decode cX7_element 135 = .ok (.ifCond .eq 15, 3) := by decide +kernel
theorem dX7_element_138 : decode cX7_element 138 = .ok (.aload_n 0, 1) := by decide +kernel
theorem dX7_element_139 : decode cX7_element 139 = .ok (.getfield 51, 3) := by decide +kernel
theorem dX7_element_142 : decode cX7_element 142 = .ok (.getfield 130, 3) := by decide +kernel
theorem dX7_element_145 : decode cX7_element 145 = .ok (.iload_n 1, 1) := by decide +kernel
theorem dX7_element_146 : decode cX7_element 146 = .ok (.iaload, 1) := by decide +kernel
theorem dX7_element_147 : decode cX7_element 147 = .ok (.goto 5, 3) := by decide +kernel
theorem dX7_element_150 : decode cX7_element 150 = .ok (.bipush (-2), 2) := by decide +kernel
theorem dX7_element_152 : decode cX7_element 152 = .ok (.ireturn, 1) := by decide +kernel
theorem dX7_element_153 : decode cX7_element 153 = .ok (.aload_n 0, 1) := by decide +kernel
theorem dX7_element_154 : decode cX7_element 154 = .ok (.getfield 51, 3) := by decide +kernel
theorem dX7_element_157 : decode cX7_element 157 = .ok (.iload_n 1, 1) := by decide +kernel
theorem dX7_element_158 : decode cX7_element 158 = .ok (.invokevirtual 133, 3) := by decide +kernel
theorem dX7_element_161 : decode cX7_element 161 = .ok (.ireturn, 1) := by decide +kernel
theorem dX7_element_162 : decode cX7_element 162 = .ok (.new 136, 3) := by decide +kernel
theorem dX7_element_165 : decode cX7_element 165 = .ok (.dup, 1) := by decide +kernel
theorem dX7_element_166 : decode cX7_element 166 = .ok (.ldc 138, 2) := by decide +kernel
theorem dX7_element_168 : decode cX7_element 168 = .ok (.invokespecial 140, 3) := by decide +kernel
theorem dX7_element_171 : decode cX7_element 171 = .ok (.athrow, 1) := by decide +kernel
theorem dX7_position_0 : decode cX7_position 0 = .ok (.aload_n 0, 1) := by decide +kernel
theorem dX7_position_1 : decode cX7_position 1 = .ok (.iload_n 1, 1) := by decide +kernel
theorem dX7_position_2 : decode cX7_position 2 = .ok (.invokevirtual 141, 3) := by decide +kernel
theorem dX7_position_5 : decode cX7_position 5 = .ok (.ifCond .eq 15, 3) := by decide +kernel
theorem dX7_position_8 : decode cX7_position 8 = .ok (.aload_n 0, 1) := by decide +kernel
theorem dX7_position_9 : decode cX7_position 9 = .ok (.getfield 51, 3) := by decide +kernel
theorem dX7_position_12 : decode cX7_position 12 = .ok (.getfield 144, 3) := by decide +kernel
theorem dX7_position_15 : decode cX7_position 15 = .ok (.iload_n 1, 1) := by decide +kernel
theorem dX7_position_16 : decode cX7_position 16 = .ok (.iaload, 1) := by decide +kernel
theorem dX7_position_17 : decode cX7_position 17 = .ok (.goto 5, 3) := by decide +kernel
theorem dX7_position_20 : decode cX7_position 20 = .ok (.ldc 147, 2) := by decide +kernel
theorem dX7_position_22 : decode cX7_position 22 = .ok (.ireturn, 1) := by decide +kernel
theorem dX7_direction_0 : decode cX7_direction 0 = .ok (.aload_n 0, 1) := by decide +kernel
theorem dX7_direction_1 : decode cX7_direction 1 = .ok (.iload_n 1, 1) := by decide +kernel
theorem dX7_direction_2 : decode cX7_direction 2 = .ok (.invokevirtual 96, 3) := by decide +kernel
theorem dX7_direction_5 : decode cX7_direction 5 = .ok (.ifCond .ne 6, 3) := by decide +kernel
theorem dX7_direction_8 : decode cX7_direction 8 = .ok (.ldc 147, 2) := by decide +kernel
theorem dX7_direction_10 : decode cX7_direction 10 = .ok (.ireturn, 1) := by decide +kernel
theorem dX7_direction_11 : decode cX7_direction 11 = .ok (.aload_n 0, 1) := by decide +kernel
theorem dX7_direction_12 : decode cX7_direction 12 = .ok (.iload_n 1, 1) := by decide +kernel
theorem dX7_direction_13 : decode cX7_direction 13 = .ok (.invokevirtual 127, 3) := by decide +kernel
theorem dX7_direction_16 : decode cX7_direction 16 = .ok (.ifCond .ne 5, 3) := by decide +kernel
theorem dX7_direction_19 : decode cX7_direction 19 = .ok (.iconst 0, 1) := by decide +kernel
theorem dX7_direction_20 : decode cX7_direction 20 = .ok (.ireturn, 1) := by decide +kernel
theorem dX7_direction_21 : decode cX7_direction 21 = .ok (.aload_n 0, 1) := by decide +kernel
theorem dX7_direction_22 : decode cX7_direction 22 = .ok (.getfield 26, 3) := by decide +kernel
theorem dX7_direction_25 : decode cX7_direction 25 = .ok (.getfield 148, 3) := by decide +kernel
theorem dX7_direction_28 : decode cX7_direction 28 = .ok (.aload_n 0, 1) := by decide +kernel
theorem dX7_direction_29 : decode cX7_direction 29 = .ok (.iload_n 1, 1) := by decide +kernel
theorem dX7_direction_30 : decode cX7_direction 30 = .ok (.invokevirtual 151, 3) := by decide +kernel
theorem dX7_direction_33 : decode cX7_direction 33 = .ok (.iaload, 1) := by decide +kernel
theorem dX7_direction_34 : decode cX7_direction 34 = .ok (.ireturn, 1) := by decide +kernel
theorem dX7_put_0 : decode cX7_put 0 = .ok (.aload_n 0, 1) := by decide +kernel
theorem dX7_put_1 : decode cX7_put 1 = .ok (.iload_n 1, 1) := by decide +kernel
theorem dX7_put_2 : decode cX7_put 2 = .ok (.invokevirtual 141, 3) := by decide +kernel
theorem dX7_put_5 : decode cX7_put 5 = .ok (.ifCond .eq 10, 3) := by decide +kernel
theorem dX7_put_8 : decode cX7_put 8 = .ok (.iload_n 2, 1) := by decide +kernel
theorem dX7_put_9 : decode cX7_put 9 = .ok (.invokestatic 154, 3) := by decide +kernel
theorem dX7_put_12 : decode cX7_put 12 = .ok (.ifCond .ne 6, 3) := by decide +kernel
theorem dX7_put_15 : decode cX7_put 15 = .ok (.ldc 147, 2) := by decide +kernel
theorem dX7_put_17 : decode cX7_put 17 = .ok (.ireturn, 1) := by decide +kernel
theorem dX7_put_18 : decode cX7_put 18 = .ok (.aload_n 0, 1) := by decide +kernel
theorem dX7_put_19 : decode cX7_put 19 = .ok (.getfield 51, 3) := by decide +kernel
theorem dX7_put_22 : decode cX7_put 22 = .ok (.getfield 144, 3) := by decide +kernel
theorem dX7_put_25 : decode cX7_put 25 = .ok (.iload_n 1, 1) := by decide +kernel
theorem dX7_put_26 : decode cX7_put 26 = .ok (.iaload, 1) := by decide +kernel
theorem dX7_put_27 : decode cX7_put 27 = .ok (.istore_n 3, 1) := by decide +kernel
theorem dX7_put_28 : decode cX7_put 28 = .ok (.aload_n 0, 1) := by decide +kernel
theorem dX7_put_29 : decode cX7_put 29 = .ok (.getfield 19, 3) := by decide +kernel
theorem dX7_put_32 : decode cX7_put 32 = .ok (.iload_n 1, 1) := by decide +kernel
theorem dX7_put_33 : decode cX7_put 33 = .ok (.iload_n 3, 1) := by decide +kernel
theorem dX7_put_34 : decode cX7_put 34 = .ok (.invokevirtual 157, 3) := by decide +kernel
theorem dX7_put_37 : decode cX7_put 37 = .ok (.aload_n 0, 1) := by decide +kernel
theorem dX7_put_38 : decode cX7_put 38 = .ok (.getfield 51, 3) := by decide +kernel
theorem dX7_put_41 : decode cX7_put 41 = .ok (.getfield 144, 3) := by decide +kernel
theorem dX7_put_44 : decode cX7_put 44 = .ok (.iload_n 1, 1) := by decide +kernel
theorem dX7_put_45 : decode cX7_put 45 = .ok (.iload_n 2, 1) := by decide +kernel
theorem dX7_put_46 : decode cX7_put 46 = .ok (.iastore, 1) := by decide +kernel
theorem dX7_put_47 : decode cX7_put 47 = .ok (.iload_n 3, 1) := by decide +kernel
theorem dX7_put_48 : decode cX7_put 48 = .ok (.ireturn, 1) := by decide +kernel
theorem dX7_undo_0 : decode cX7_undo 0 = .ok (.aload_n 0, 1) := by decide +kernel
theorem dX7_undo_1 : decode cX7_undo 1 = .ok (.getfield 19, 3) := by decide +kernel
theorem dX7_undo_4 : decode cX7_undo 4 = .ok (.getfield 86, 3) := by decide +kernel
theorem dX7_undo_7 : decode cX7_undo 7 = .ok (.ifCond .ne 5, 3) := by decide +kernel
theorem dX7_undo_10 : decode cX7_undo 10 = .ok (.iconst (-1), 1) := by decide +kernel
theorem dX7_undo_11 : decode cX7_undo 11 = .ok (.ireturn, 1) := by decide +kernel
theorem dX7_undo_12 : decode cX7_undo 12 = .ok (.aload_n 0, 1) := by decide +kernel
theorem dX7_undo_13 : decode cX7_undo 13 = .ok (.getfield 19, 3) := by decide +kernel
theorem dX7_undo_16 : decode cX7_undo 16 = .ok (.invokevirtual 161, 3) := by decide +kernel
theorem dX7_undo_19 : decode cX7_undo 19 = .ok (.istore_n 1, 1) := by decide +kernel
theorem dX7_undo_20 : decode cX7_undo 20 = .ok (.aload_n 0, 1) := by decide +kernel
theorem dX7_undo_21 : decode cX7_undo 21 = .ok (.iload_n 1, 1) := by decide +kernel
theorem dX7_undo_22 : decode cX7_undo 22 = .ok (.invokevirtual 96, 3) := by decide +kernel
theorem dX7_undo_25 : decode cX7_undo 25 = .ok (.ifCond .eq 19, 3) := by decide +kernel
theorem dX7_undo_28 : decode cX7_undo 28 = .ok (.aload_n 0, 1) := by decide +kernel
theorem dX7_undo_29 : decode cX7_undo 29 = .ok (.getfield 51, 3) := by decide +kernel
theorem dX7_undo_32 : decode cX7_undo 32 = .ok (.getfield 144, 3) := by decide +kernel
theorem dX7_undo_35 : decode cX7_undo 35 = .ok (.iload_n 1, 1) := by decide +kernel
theorem dX7_undo_36 : decode cX7_undo 36 = .ok (.aload_n 0, 1) := by decide +kernel
theorem dX7_undo_37 : decode cX7_undo 37 = .ok (.getfield 19, 3) := by decide +kernel
theorem dX7_undo_40 : decode cX7_undo 40 = .ok (.invokevirtual 165, 3) := by decide +kernel
theorem dX7_undo_43 : decode cX7_undo 43 = .ok (.iastore, 1) := by decide +kernel
theorem dX7_undo_44 : decode cX7_undo 44 = .ok (.aload_n 0, 1) := by decide +kernel
theorem dX7_undo_45 : decode cX7_undo 45 = .ok (.getfield 19, 3) := by decide +kernel
theorem dX7_undo_48 : decode cX7_undo 48 = .ok (.invokevirtual 168, 3) := by decide +kernel
theorem dX7_undo_51 : decode cX7_undo 51 = .ok (.aload_n 0, 1) := by decide +kernel
theorem dX7_undo_52 : decode cX7_undo 52 = .ok (.getfield 19, 3) := by decide +kernel
theorem dX7_undo_55 : decode cX7_undo 55 = .ok (.getfield 86, 3) := by decide +kernel
theorem dX7_undo_58 : decode cX7_undo 58 = .ok (.ireturn, 1) := by decide +kernel
theorem dX7_group_0 : decode cX7_group 0 = .ok (.aload_n 0, 1) := by decide +kernel
theorem dX7_group_1 : decode cX7_group 1 = .ok (.iload_n 1, 1) := by decide +kernel
theorem dX7_group_2 : decode cX7_group 2 = .ok (.invokevirtual 171, 3) := by decide +kernel
theorem dX7_group_5 : decode cX7_group 5 = .ok (.ifCond .ne 13, 3) := by decide +kernel
theorem dX7_group_8 : decode cX7_group 8 = .ok (.new 99, 3) := by decide +kernel
theorem dX7_group_11 : decode cX7_group 11 = .ok (.dup, 1) := by decide +kernel
theorem dX7_group_12 : decode cX7_group 12 = .ok (.ldc 174, 2) := by decide +kernel
theorem dX7_group_14 : decode cX7_group 14 = .ok (.invokespecial 103, 3) := by decide +kernel
theorem dX7_group_17 : decode cX7_group 17 = .ok (.athrow, 1) := by decide +kernel
theorem dX7_group_18 : decode cX7_group 18 = .ok (.aload_n 0, 1) := by decide +kernel
theorem dX7_group_19 : decode cX7_group 19 = .ok (.iload_n 1, 1) := by decide +kernel
theorem dX7_group_20 : decode cX7_group 20 = .ok (.invokevirtual 176, 3) := by decide +kernel
theorem dX7_group_23 : decode cX7_group 23 = .ok (.iload_n 2, 1) := by decide +kernel
theorem dX7_group_24 : decode cX7_group 24 = .ok (.tableswitch 110 0 6 #[44, 54, 62, 78, 86, 94, 102], 44) := by decide +kernel
theorem dX7_group_68 : decode cX7_group 68 = .ok (.aload_n 0, 1) := by decide +kernel
theorem dX7_group_69 : decode cX7_group 69 = .ok (.getfield 51, 3) := by decide +kernel
theorem dX7_group_72 : decode cX7_group 72 = .ok (.getfield 179, 3) := by decide +kernel
theorem dX7_group_75 : decode cX7_group 75 = .ok (.iload_n 1, 1) := by decide +kernel
theorem dX7_group_76 : decode cX7_group 76 = .ok (.iaload, 1) := by decide +kernel
theorem dX7_group_77 : decode cX7_group 77 = .ok (.ireturn, 1) := by decide +kernel
theorem dX7_group_78 : decode cX7_group 78 = .ok (.aload_n 0, 1) := by decide +kernel
theorem dX7_group_79 : decode cX7_group 79 = .ok (.getfield 26, 3) := by decide +kernel
theorem dX7_group_82 : decode cX7_group 82 = .ok (.getfield 182, 3) := by decide +kernel
theorem dX7_group_85 : decode cX7_group 85 = .ok (.ireturn, 1) := by decide +kernel
theorem dX7_group_86 : decode cX7_group 86 = .ok (.aload_n 0, 1) := by decide +kernel
theorem dX7_group_87 : decode cX7_group 87 = .ok (.getfield 26, 3) := by decide +kernel
theorem dX7_group_90 : decode cX7_group 90 = .ok (.getfield 183, 3) := by decide +kernel
theorem dX7_group_93 : decode cX7_group 93 = .ok (.ifCond .eq 7, 3) := by decide +kernel
theorem dX7_group_96 : decode cX7_group 96 = .ok (.iconst 1, 1) := by decide +kernel
theorem dX7_group_97 : decode cX7_group 97 = .ok (.goto 4, 3) := by decide +kernel
theorem dX7_group_100 : decode cX7_group 100 = .ok (.iconst 0, 1) := by decide +kernel
theorem dX7_group_101 : decode cX7_group 101 = .ok (.ireturn, 1) := by decide +kernel
theorem dX7_group_102 : decode cX7_group 102 = .ok (.aload_n 0, 1) := by decide +kernel
theorem dX7_group_103 : decode cX7_group 103 = .ok (.getfield 26, 3) := by decide +kernel
theorem dX7_group_106 : decode cX7_group 106 = .ok (.getfield 187, 3) := by decide +kernel
theorem dX7_group_109 : decode cX7_group 109 = .ok (.ireturn, 1) := by decide +kernel
theorem dX7_group_110 : decode cX7_group 110 = .ok (.aload_n 0, 1) := by decide +kernel
theorem dX7_group_111 : decode cX7_group 111 = .ok (.getfield 26, 3) := by decide +kernel
theorem dX7_group_114 : decode cX7_group 114 = .ok (.invokevirtual 190, 3) := by decide +kernel
theorem dX7_group_117 : decode cX7_group 117 = .ok (.ireturn, 1) := by decide +kernel
theorem dX7_group_118 : decode cX7_group 118 = .ok (.aload_n 0, 1) := by decide +kernel
theorem dX7_group_119 : decode cX7_group 119 = .ok (.getfield 26, 3) := by decide +kernel
theorem dX7_group_122 : decode cX7_group 122 = .ok (.invokevirtual 193, 3) := by decide +kernel
theorem dX7_group_125 : decode cX7_group 125 = .ok (.ireturn, 1) := by decide +kernel
theorem dX7_group_126 : decode cX7_group 126 = .ok (.aload_n 0, 1) := by decide +kernel
theorem dX7_group_127 : decode cX7_group 127 = .ok (.getfield 26, 3) := by decide +kernel
theorem dX7_group_130 : decode cX7_group 130 = .ok (.invokevirtual 196, 3) := by decide +kernel
theorem dX7_group_133 : decode cX7_group 133 = .ok (.ireturn, 1) := by decide +kernel
theorem dX7_group_134 : decode cX7_group 134 = .ok (.new 136, 3) := by decide +kernel
theorem dX7_group_137 : decode cX7_group 137 = .ok (.dup, 1) := by decide +kernel
theorem dX7_group_138 : decode cX7_group 138 = .ok (.ldc 138, 2) := by decide +kernel
theorem dX7_group_140 : decode cX7_group 140 = .ok (.invokespecial 140, 3) := by decide +kernel
theorem dX7_group_143 : decode cX7_group 143 = .ok (.athrow, 1) := by decide +kernel
theorem dX7_want_0 : decode cX7_want 0 = .ok (.aload_n 0, 1) := by decide +kernel
theorem dX7_want_1 : decode cX7_want 1 = .ok (.iload_n 1, 1) := by decide +kernel
theorem dX7_want_2 : decode cX7_want 2 = .ok (.invokevirtual 171, 3) := by decide +kernel
theorem dX7_want_5 : decode cX7_want 5 = .ok (.ifCond .ne 6, 3) := by decide +kernel
theorem dX7_want_8 : decode cX7_want 8 = .ok (.ldc 147, 2) := by decide +kernel
theorem dX7_want_10 : decode cX7_want 10 = .ok (.ireturn, 1) := by decide +kernel
theorem dX7_want_11 : decode cX7_want 11 = .ok (.aload_n 0, 1) := by decide +kernel
theorem dX7_want_12 : decode cX7_want 12 = .ok (.iload_n 1, 1) := by decide +kernel
theorem dX7_want_13 : decode cX7_want 13 = .ok (.invokevirtual 176, 3) := by decide +kernel
theorem dX7_want_16 : decode cX7_want 16 = .ok (.aload_n 0, 1) := by decide +kernel
theorem dX7_want_17 : decode cX7_want 17 = .ok (.getfield 26, 3) := by decide +kernel
theorem dX7_want_20 : decode cX7_want 20 = .ok (.getfield 199, 3) := by decide +kernel
theorem dX7_want_23 : decode cX7_want 23 = .ok (.ireturn, 1) := by decide +kernel
theorem dX7_ideal_0 : decode cX7_ideal 0 = .ok (.aload_n 0, 1) := by decide +kernel
theorem dX7_ideal_1 : decode cX7_ideal 1 = .ok (.iload_n 1, 1) := by decide +kernel
theorem dX7_ideal_2 : decode cX7_ideal 2 = .ok (.invokevirtual 96, 3) := by decide +kernel
theorem dX7_ideal_5 : decode cX7_ideal 5 = .ok (.ifCond .ne 5, 3) := by decide +kernel
theorem dX7_ideal_8 : decode cX7_ideal 8 = .ok (.iconst (-1), 1) := by decide +kernel
theorem dX7_ideal_9 : decode cX7_ideal 9 = .ok (.ireturn, 1) := by decide +kernel
theorem dX7_ideal_10 : decode cX7_ideal 10 = .ok (.aload_n 0, 1) := by decide +kernel
theorem dX7_ideal_11 : decode cX7_ideal 11 = .ok (.iload_n 1, 1) := by decide +kernel
theorem dX7_ideal_12 : decode cX7_ideal 12 = .ok (.invokevirtual 127, 3) := by decide +kernel
theorem dX7_ideal_15 : decode cX7_ideal 15 = .ok (.ifCond .ne 6, 3) := by decide +kernel
theorem dX7_ideal_18 : decode cX7_ideal 18 = .ok (.bipush (-2), 2) := by decide +kernel
theorem dX7_ideal_20 : decode cX7_ideal 20 = .ok (.ireturn, 1) := by decide +kernel
theorem dX7_ideal_21 : decode cX7_ideal 21 = .ok (.aload_n 0, 1) := by decide +kernel
theorem dX7_ideal_22 : decode cX7_ideal 22 = .ok (.getfield 26, 3) := by decide +kernel
theorem dX7_ideal_25 : decode cX7_ideal 25 = .ok (.getfield 202, 3) := by decide +kernel
theorem dX7_ideal_28 : decode cX7_ideal 28 = .ok (.aload_n 0, 1) := by decide +kernel
theorem dX7_ideal_29 : decode cX7_ideal 29 = .ok (.iload_n 1, 1) := by decide +kernel
theorem dX7_ideal_30 : decode cX7_ideal 30 = .ok (.invokevirtual 151, 3) := by decide +kernel
theorem dX7_ideal_33 : decode cX7_ideal 33 = .ok (.iaload, 1) := by decide +kernel
theorem dX7_ideal_34 : decode cX7_ideal 34 = .ok (.ireturn, 1) := by decide +kernel
theorem dX7_ugliness_0 : decode cX7_ugliness 0 = .ok (.aload_n 0, 1) := by decide +kernel
theorem dX7_ugliness_1 : decode cX7_ugliness 1 = .ok (.iload_n 1, 1) := by decide +kernel
theorem dX7_ugliness_2 : decode cX7_ugliness 2 = .ok (.invokevirtual 171, 3) := by decide +kernel
theorem dX7_ugliness_5 : decode cX7_ugliness 5 = .ok (.ifCond .eq 22, 3) := by decide +kernel
theorem dX7_ugliness_8 : decode cX7_ugliness 8 = .ok (.iload_n 2, 1) := by decide +kernel
theorem dX7_ugliness_9 : decode cX7_ugliness 9 = .ok (.iload_n 3, 1) := by decide +kernel
theorem dX7_ugliness_10 : decode cX7_ugliness 10 = .ok (.invokestatic 205, 3) := by decide +kernel
theorem dX7_ugliness_13 : decode cX7_ugliness 13 = .ok (.ifCond .eq 14, 3) := by decide +kernel
theorem dX7_ugliness_16 : decode cX7_ugliness 16 = .ok (.iload 4, 2) := by decide +kernel
theorem dX7_ugliness_18 : decode cX7_ugliness 18 = .ok (.ifCond .lt 9, 3) := by decide +kernel
theorem dX7_ugliness_21 : decode cX7_ugliness 21 = .ok (.iload 4, 2) := by decide +kernel
theorem dX7_ugliness_23 : decode cX7_ugliness 23 = .ok (.iconst 3, 1) := by decide +kernel
theorem dX7_ugliness_24 : decode cX7_ugliness 24 = .ok (.if_icmp .le 5, 3) := by decide +kernel
theorem dX7_ugliness_27 : decode cX7_ugliness 27 = .ok (.iconst (-1), 1) := by decide +kernel
theorem dX7_ugliness_28 : decode cX7_ugliness 28 = .ok (.ireturn, 1) := by decide +kernel
theorem dX7_ugliness_29 : decode cX7_ugliness 29 = .ok (.aload_n 0, 1) := by decide +kernel
theorem dX7_ugliness_30 : decode cX7_ugliness 30 = .ok (.iload_n 1, 1) := by decide +kernel
theorem dX7_ugliness_31 : decode cX7_ugliness 31 = .ok (.invokevirtual 176, 3) := by decide +kernel
theorem dX7_ugliness_34 : decode cX7_ugliness 34 = .ok (.aload_n 0, 1) := by decide +kernel
theorem dX7_ugliness_35 : decode cX7_ugliness 35 = .ok (.getfield 26, 3) := by decide +kernel
theorem dX7_ugliness_38 : decode cX7_ugliness 38 = .ok (.iload_n 2, 1) := by decide +kernel
theorem dX7_ugliness_39 : decode cX7_ugliness 39 = .ok (.iload_n 3, 1) := by decide +kernel
theorem dX7_ugliness_40 : decode cX7_ugliness 40 = .ok (.invokevirtual 209, 3) := by decide +kernel
theorem dX7_ugliness_43 : decode cX7_ugliness 43 = .ok (.ifCond .eq 19, 3) := by decide +kernel
theorem dX7_ugliness_46 : decode cX7_ugliness 46 = .ok (.aload_n 0, 1) := by decide +kernel
theorem dX7_ugliness_47 : decode cX7_ugliness 47 = .ok (.getfield 26, 3) := by decide +kernel
theorem dX7_ugliness_50 : decode cX7_ugliness 50 = .ok (.iload_n 2, 1) := by decide +kernel
theorem dX7_ugliness_51 : decode cX7_ugliness 51 = .ok (.iload_n 3, 1) := by decide +kernel
theorem dX7_ugliness_52 : decode cX7_ugliness 52 = .ok (.iload 4, 2) := by decide +kernel
theorem dX7_ugliness_54 : decode cX7_ugliness 54 = .ok (.iconst 2, 1) := by decide +kernel
theorem dX7_ugliness_55 : decode cX7_ugliness 55 = .ok (.iadd, 1) := by decide +kernel
theorem dX7_ugliness_56 : decode cX7_ugliness 56 = .ok (.invokevirtual 212, 3) := by decide +kernel
theorem dX7_ugliness_59 : decode cX7_ugliness 59 = .ok (.goto 5, 3) := by decide +kernel
theorem dX7_ugliness_62 : decode cX7_ugliness 62 = .ok (.bipush (-2), 2) := by decide +kernel
theorem dX7_ugliness_64 : decode cX7_ugliness 64 = .ok (.ireturn, 1) := by decide +kernel
theorem dX7_best_0 : decode cX7_best 0 = .ok (.aload_n 0, 1) := by decide +kernel
theorem dX7_best_1 : decode cX7_best 1 = .ok (.iload_n 1, 1) := by decide +kernel
theorem dX7_best_2 : decode cX7_best 2 = .ok (.invokevirtual 171, 3) := by decide +kernel
theorem dX7_best_5 : decode cX7_best 5 = .ok (.ifCond .ne 6, 3) := by decide +kernel
theorem dX7_best_8 : decode cX7_best 8 = .ok (.ldc 147, 2) := by decide +kernel
theorem dX7_best_10 : decode cX7_best 10 = .ok (.ireturn, 1) := by decide +kernel
theorem dX7_best_11 : decode cX7_best 11 = .ok (.aload_n 0, 1) := by decide +kernel
theorem dX7_best_12 : decode cX7_best 12 = .ok (.iload_n 1, 1) := by decide +kernel
theorem dX7_best_13 : decode cX7_best 13 = .ok (.invokevirtual 176, 3) := by decide +kernel
theorem dX7_best_16 : decode cX7_best 16 = .ok (.aload_n 0, 1) := by decide +kernel
theorem dX7_best_17 : decode cX7_best 17 = .ok (.iload_n 2, 1) := by decide +kernel
theorem dX7_best_18 : decode cX7_best 18 = .ok (.invokevirtual 216, 3) := by decide +kernel
theorem dX7_best_21 : decode cX7_best 21 = .ok (.ireturn, 1) := by decide +kernel
theorem dX7_ranked_0 : decode cX7_ranked 0 = .ok (.aload_n 0, 1) := by decide +kernel
theorem dX7_ranked_1 : decode cX7_ranked 1 = .ok (.iload_n 1, 1) := by decide +kernel
theorem dX7_ranked_2 : decode cX7_ranked 2 = .ok (.invokevirtual 171, 3) := by decide +kernel
theorem dX7_ranked_5 : decode cX7_ranked 5 = .ok (.ifCond .eq 16, 3) := by decide +kernel
theorem dX7_ranked_8 : decode cX7_ranked 8 = .ok (.iload_n 2, 1) := by decide +kernel
theorem dX7_ranked_9 : decode cX7_ranked 9 = .ok (.ifCond .lt 12, 3) := by decide +kernel
theorem dX7_ranked_12 : decode cX7_ranked 12 = .ok (.iload_n 3, 1) := by decide +kernel
theorem dX7_ranked_13 : decode cX7_ranked 13 = .ok (.ifCond .lt 8, 3) := by decide +kernel
theorem dX7_ranked_16 : decode cX7_ranked 16 = .ok (.iload_n 3, 1) := by decide +kernel
theorem dX7_ranked_17 : decode cX7_ranked 17 = .ok (.iconst 5, 1) := by decide +kernel
theorem dX7_ranked_18 : decode cX7_ranked 18 = .ok (.if_icmp .le 6, 3) := by decide +kernel
theorem dX7_ranked_21 : decode cX7_ranked 21 = .ok (.ldc 147, 2) := by decide +kernel
theorem dX7_ranked_23 : decode cX7_ranked 23 = .ok (.ireturn, 1) := by decide +kernel
theorem dX7_ranked_24 : decode cX7_ranked 24 = .ok (.aload_n 0, 1) := by decide +kernel
theorem dX7_ranked_25 : decode cX7_ranked 25 = .ok (.iload_n 1, 1) := by decide +kernel
theorem dX7_ranked_26 : decode cX7_ranked 26 = .ok (.invokevirtual 176, 3) := by decide +kernel
theorem dX7_ranked_29 : decode cX7_ranked 29 = .ok (.iload_n 2, 1) := by decide +kernel
theorem dX7_ranked_30 : decode cX7_ranked 30 = .ok (.aload_n 0, 1) := by decide +kernel
theorem dX7_ranked_31 : decode cX7_ranked 31 = .ok (.getfield 26, 3) := by decide +kernel
theorem dX7_ranked_34 : decode cX7_ranked 34 = .ok (.invokevirtual 193, 3) := by decide +kernel
theorem dX7_ranked_37 : decode cX7_ranked 37 = .ok (.if_icmp .lt 6, 3) := by decide +kernel
theorem dX7_ranked_40 : decode cX7_ranked 40 = .ok (.ldc 147, 2) := by decide +kernel
theorem dX7_ranked_42 : decode cX7_ranked 42 = .ok (.ireturn, 1) := by decide +kernel
theorem dX7_ranked_43 : decode cX7_ranked 43 = .ok (.aload_n 0, 1) := by decide +kernel
theorem dX7_ranked_44 : decode cX7_ranked 44 = .ok (.getfield 26, 3) := by decide +kernel
theorem dX7_ranked_47 : decode cX7_ranked 47 = .ok (.invokevirtual 219, 3) := by decide +kernel
theorem dX7_ranked_50 : decode cX7_ranked 50 = .ok (.aload_n 0, 1) := by decide +kernel
theorem dX7_ranked_51 : decode cX7_ranked 51 = .ok (.getfield 26, 3) := by decide +kernel
theorem dX7_ranked_54 : decode cX7_ranked 54 = .ok (.aload_n 0, 1) := by decide +kernel
theorem dX7_ranked_55 : decode cX7_ranked 55 = .ok (.getfield 26, 3) := by decide +kernel
theorem dX7_ranked_58 : decode cX7_ranked 58 = .ok (.getfield 222, 3) := by decide +kernel
theorem dX7_ranked_61 : decode cX7_ranked 61 = .ok (.iload_n 2, 1) := by decide +kernel
theorem dX7_ranked_62 : decode cX7_ranked 62 = .ok (.laload, 1) := by decide +kernel
theorem dX7_ranked_63 : decode cX7_ranked 63 = .ok (.iload_n 3, 1) := by decide +kernel
theorem dX7_ranked_64 : decode cX7_ranked 64 = .ok (.invokevirtual 226, 3) := by decide +kernel
theorem dX7_ranked_67 : decode cX7_ranked 67 = .ok (.ireturn, 1) := by decide +kernel
theorem dX7_rank_0 : decode cX7_rank 0 = .ok (.aload_n 0, 1) := by decide +kernel
theorem dX7_rank_1 : decode cX7_rank 1 = .ok (.iload_n 1, 1) := by decide +kernel
theorem dX7_rank_2 : decode cX7_rank 2 = .ok (.invokevirtual 171, 3) := by decide +kernel
theorem dX7_rank_5 : decode cX7_rank 5 = .ok (.ifCond .eq 11, 3) := by decide +kernel
theorem dX7_rank_8 : decode cX7_rank 8 = .ok (.iload_n 2, 1) := by decide +kernel
theorem dX7_rank_9 : decode cX7_rank 9 = .ok (.iload_n 3, 1) := by decide +kernel
theorem dX7_rank_10 : decode cX7_rank 10 = .ok (.invokestatic 205, 3) := by decide +kernel
theorem dX7_rank_13 : decode cX7_rank 13 = .ok (.ifCond .ne 5, 3) := by decide +kernel
theorem dX7_rank_16 : decode cX7_rank 16 = .ok (.iconst (-1), 1) := by decide +kernel
theorem dX7_rank_17 : decode cX7_rank 17 = .ok (.ireturn, 1) := by decide +kernel
theorem dX7_rank_18 : decode cX7_rank 18 = .ok (.aload_n 0, 1) := by decide +kernel
theorem dX7_rank_19 : decode cX7_rank 19 = .ok (.iload_n 1, 1) := by decide +kernel
theorem dX7_rank_20 : decode cX7_rank 20 = .ok (.invokevirtual 176, 3) := by decide +kernel
theorem dX7_rank_23 : decode cX7_rank 23 = .ok (.aload_n 0, 1) := by decide +kernel
theorem dX7_rank_24 : decode cX7_rank 24 = .ok (.getfield 26, 3) := by decide +kernel
theorem dX7_rank_27 : decode cX7_rank 27 = .ok (.iload_n 2, 1) := by decide +kernel
theorem dX7_rank_28 : decode cX7_rank 28 = .ok (.iload_n 3, 1) := by decide +kernel
theorem dX7_rank_29 : decode cX7_rank 29 = .ok (.invokevirtual 209, 3) := by decide +kernel
theorem dX7_rank_32 : decode cX7_rank 32 = .ok (.ifCond .eq 22, 3) := by decide +kernel
theorem dX7_rank_35 : decode cX7_rank 35 = .ok (.aload_n 0, 1) := by decide +kernel
theorem dX7_rank_36 : decode cX7_rank 36 = .ok (.getfield 26, 3) := by decide +kernel
theorem dX7_rank_39 : decode cX7_rank 39 = .ok (.aload_n 0, 1) := by decide +kernel
theorem dX7_rank_40 : decode cX7_rank 40 = .ok (.getfield 26, 3) := by decide +kernel
theorem dX7_rank_43 : decode cX7_rank 43 = .ok (.iload_n 2, 1) := by decide +kernel
theorem dX7_rank_44 : decode cX7_rank 44 = .ok (.iload_n 3, 1) := by decide +kernel
theorem dX7_rank_45 : decode cX7_rank 45 = .ok (.invokevirtual 230, 3) := by decide +kernel
theorem dX7_rank_48 : decode cX7_rank 48 = .ok (.invokevirtual 234, 3) := by decide +kernel
theorem dX7_rank_51 : decode cX7_rank 51 = .ok (.goto 5, 3) := by decide +kernel
theorem dX7_rank_54 : decode cX7_rank 54 = .ok (.bipush (-2), 2) := by decide +kernel
theorem dX7_rank_56 : decode cX7_rank 56 = .ok (.ireturn, 1) := by decide +kernel
theorem dX7_stem_0 : decode cX7_stem 0 = .ok (.aload_n 0, 1) := by decide +kernel
theorem dX7_stem_1 : decode cX7_stem 1 = .ok (.iload_n 1, 1) := by decide +kernel
theorem dX7_stem_2 : decode cX7_stem 2 = .ok (.invokevirtual 127, 3) := by decide +kernel
theorem dX7_stem_5 : decode cX7_stem 5 = .ok (.ifCond .eq 12, 3) := by decide +kernel
theorem dX7_stem_8 : decode cX7_stem 8 = .ok (.iload_n 2, 1) := by decide +kernel
theorem dX7_stem_9 : decode cX7_stem 9 = .ok (.ifCond .lt 8, 3) := by decide +kernel
theorem dX7_stem_12 : decode cX7_stem 12 = .ok (.iload_n 2, 1) := by decide +kernel
theorem dX7_stem_13 : decode cX7_stem 13 = .ok (.iconst 3, 1) := by decide +kernel
theorem dX7_stem_14 : decode cX7_stem 14 = .ok (.if_icmp .le 6, 3) := by decide +kernel
theorem dX7_stem_17 : decode cX7_stem 17 = .ok (.ldc 147, 2) := by decide +kernel
theorem dX7_stem_19 : decode cX7_stem 19 = .ok (.ireturn, 1) := by decide +kernel
theorem dX7_stem_20 : decode cX7_stem 20 = .ok (.aload_n 0, 1) := by decide +kernel
theorem dX7_stem_21 : decode cX7_stem 21 = .ok (.iload_n 1, 1) := by decide +kernel
theorem dX7_stem_22 : decode cX7_stem 22 = .ok (.invokevirtual 151, 3) := by decide +kernel
theorem dX7_stem_25 : decode cX7_stem 25 = .ok (.istore_n 3, 1) := by decide +kernel
theorem dX7_stem_26 : decode cX7_stem 26 = .ok (.aload_n 0, 1) := by decide +kernel
theorem dX7_stem_27 : decode cX7_stem 27 = .ok (.getfield 26, 3) := by decide +kernel
theorem dX7_stem_30 : decode cX7_stem 30 = .ok (.invokevirtual 238, 3) := by decide +kernel
theorem dX7_stem_33 : decode cX7_stem 33 = .ok (.lstore 4, 2) := by decide +kernel
theorem dX7_stem_35 : decode cX7_stem 35 = .ok (.lload 4, 2) := by decide +kernel
theorem dX7_stem_37 : decode cX7_stem 37 = .ok (.ldc2_w 242, 3) := by decide +kernel
theorem dX7_stem_40 : decode cX7_stem 40 = .ok (.lcmp, 1) := by decide +kernel
theorem dX7_stem_41 : decode cX7_stem 41 = .ok (.ifCond .ne 6, 3) := by decide +kernel
theorem dX7_stem_44 : decode cX7_stem 44 = .ok (.ldc 147, 2) := by decide +kernel
theorem dX7_stem_46 : decode cX7_stem 46 = .ok (.ireturn, 1) := by decide +kernel
theorem dX7_stem_47 : decode cX7_stem 47 = .ok (.iload_n 2, 1) := by decide +kernel
theorem dX7_stem_48 : decode cX7_stem 48 = .ok (.iconst 2, 1) := by decide +kernel
theorem dX7_stem_49 : decode cX7_stem 49 = .ok (.if_icmp .ge 16, 3) := by decide +kernel
theorem dX7_stem_52 : decode cX7_stem 52 = .ok (.aload_n 0, 1) := by decide +kernel
theorem dX7_stem_53 : decode cX7_stem 53 = .ok (.getfield 26, 3) := by decide +kernel
theorem dX7_stem_56 : decode cX7_stem 56 = .ok (.lload 4, 2) := by decide +kernel
theorem dX7_stem_58 : decode cX7_stem 58 = .ok (.iload_n 3, 1) := by decide +kernel
theorem dX7_stem_59 : decode cX7_stem 59 = .ok (.invokevirtual 244, 3) := by decide +kernel
theorem dX7_stem_62 : decode cX7_stem 62 = .ok (.goto 13, 3) := by decide +kernel
theorem dX7_stem_65 : decode cX7_stem 65 = .ok (.aload_n 0, 1) := by decide +kernel
theorem dX7_stem_66 : decode cX7_stem 66 = .ok (.getfield 26, 3) := by decide +kernel
theorem dX7_stem_69 : decode cX7_stem 69 = .ok (.lload 4, 2) := by decide +kernel
theorem dX7_stem_71 : decode cX7_stem 71 = .ok (.iload_n 3, 1) := by decide +kernel
theorem dX7_stem_72 : decode cX7_stem 72 = .ok (.invokevirtual 247, 3) := by decide +kernel
theorem dX7_stem_75 : decode cX7_stem 75 = .ok (.istore 6, 2) := by decide +kernel
theorem dX7_stem_77 : decode cX7_stem 77 = .ok (.iload 6, 2) := by decide +kernel
theorem dX7_stem_79 : decode cX7_stem 79 = .ok (.invokestatic 250, 3) := by decide +kernel
theorem dX7_stem_82 : decode cX7_stem 82 = .ok (.aload_n 0, 1) := by decide +kernel
theorem dX7_stem_83 : decode cX7_stem 83 = .ok (.getfield 26, 3) := by decide +kernel
theorem dX7_stem_86 : decode cX7_stem 86 = .ok (.getfield 187, 3) := by decide +kernel
theorem dX7_stem_89 : decode cX7_stem 89 = .ok (.invokestatic 255, 3) := by decide +kernel
theorem dX7_stem_92 : decode cX7_stem 92 = .ok (.istore 7, 2) := by decide +kernel
theorem dX7_stem_94 : decode cX7_stem 94 = .ok (.iload_n 2, 1) := by decide +kernel
theorem dX7_stem_95 : decode cX7_stem 95 = .ok (.iconst 2, 1) := by decide +kernel
theorem dX7_stem_96 : decode cX7_stem 96 = .ok (.irem, 1) := by decide +kernel
theorem dX7_stem_97 : decode cX7_stem 97 = .ok (.ifCond .ne 8, 3) := by decide +kernel
theorem dX7_stem_100 : decode cX7_stem 100 = .ok (.iload 6, 2) := by decide +kernel
theorem dX7_stem_102 : decode cX7_stem 102 = .ok (.goto 10, 3) := by decide +kernel
theorem dX7_stem_105 : decode cX7_stem 105 = .ok (.aload_n 0, 1) := by decide +kernel
theorem dX7_stem_106 : decode cX7_stem 106 = .ok (.getfield 26, 3) := by decide +kernel
theorem dX7_stem_109 : decode cX7_stem 109 = .ok (.getfield 187, 3) := by decide +kernel
theorem dX7_stem_112 : decode cX7_stem 112 = .ok (.iconst 1, 1) := by decide +kernel
theorem dX7_stem_113 : decode cX7_stem 113 = .ok (.iload 7, 2) := by decide +kernel
theorem dX7_stem_115 : decode cX7_stem 115 = .ok (.invokestatic 258, 3) := by decide +kernel
theorem dX7_stem_118 : decode cX7_stem 118 = .ok (.idiv, 1) := by decide +kernel
theorem dX7_stem_119 : decode cX7_stem 119 = .ok (.ireturn, 1) := by decide +kernel
theorem dX7_touch_0 : decode cX7_touch 0 = .ok (.aload_n 0, 1) := by decide +kernel
theorem dX7_touch_1 : decode cX7_touch 1 = .ok (.iload_n 1, 1) := by decide +kernel
theorem dX7_touch_2 : decode cX7_touch 2 = .ok (.invokevirtual 171, 3) := by decide +kernel
theorem dX7_touch_5 : decode cX7_touch 5 = .ok (.ifCond .eq 16, 3) := by decide +kernel
theorem dX7_touch_8 : decode cX7_touch 8 = .ok (.iload_n 2, 1) := by decide +kernel
theorem dX7_touch_9 : decode cX7_touch 9 = .ok (.ifCond .lt 12, 3) := by decide +kernel
theorem dX7_touch_12 : decode cX7_touch 12 = .ok (.iload_n 2, 1) := by decide +kernel
theorem dX7_touch_13 : decode cX7_touch 13 = .ok (.iconst 1, 1) := by decide +kernel
theorem dX7_touch_14 : decode cX7_touch 14 = .ok (.if_icmp .gt 7, 3) := by decide +kernel
theorem dX7_touch_17 : decode cX7_touch 17 = .ok (.iload_n 3, 1) := by decide +kernel
theorem dX7_touch_18 : decode cX7_touch 18 = .ok (.ifCond .ge 5, 3) := by decide +kernel
theorem dX7_touch_21 : decode cX7_touch 21 = .ok (.iconst (-1), 1) := by decide +kernel
theorem dX7_touch_22 : decode cX7_touch 22 = .ok (.ireturn, 1) := by decide +kernel
theorem dX7_touch_23 : decode cX7_touch 23 = .ok (.aload_n 0, 1) := by decide +kernel
theorem dX7_touch_24 : decode cX7_touch 24 = .ok (.iload_n 1, 1) := by decide +kernel
theorem dX7_touch_25 : decode cX7_touch 25 = .ok (.invokevirtual 176, 3) := by decide +kernel
theorem dX7_touch_28 : decode cX7_touch 28 = .ok (.iload_n 3, 1) := by decide +kernel
theorem dX7_touch_29 : decode cX7_touch 29 = .ok (.aload_n 0, 1) := by decide +kernel
theorem dX7_touch_30 : decode cX7_touch 30 = .ok (.getfield 26, 3) := by decide +kernel
theorem dX7_touch_33 : decode cX7_touch 33 = .ok (.iload_n 2, 1) := by decide +kernel
theorem dX7_touch_34 : decode cX7_touch 34 = .ok (.invokevirtual 261, 3) := by decide +kernel
theorem dX7_touch_37 : decode cX7_touch 37 = .ok (.if_icmp .lt 5, 3) := by decide +kernel
theorem dX7_touch_40 : decode cX7_touch 40 = .ok (.iconst (-1), 1) := by decide +kernel
theorem dX7_touch_41 : decode cX7_touch 41 = .ok (.ireturn, 1) := by decide +kernel
theorem dX7_touch_42 : decode cX7_touch 42 = .ok (.aload_n 0, 1) := by decide +kernel
theorem dX7_touch_43 : decode cX7_touch 43 = .ok (.getfield 26, 3) := by decide +kernel
theorem dX7_touch_46 : decode cX7_touch 46 = .ok (.invokevirtual 238, 3) := by decide +kernel
theorem dX7_touch_49 : decode cX7_touch 49 = .ok (.lstore 4, 2) := by decide +kernel
theorem dX7_touch_51 : decode cX7_touch 51 = .ok (.lload 4, 2) := by decide +kernel
theorem dX7_touch_53 : decode cX7_touch 53 = .ok (.ldc2_w 242, 3) := by decide +kernel
theorem dX7_touch_56 : decode cX7_touch 56 = .ok (.lcmp, 1) := by decide +kernel
theorem dX7_touch_57 : decode cX7_touch 57 = .ok (.ifCond .ne 6, 3) := by decide +kernel
theorem dX7_touch_60 : decode cX7_touch 60 = .ok (.bipush (-2), 2) := by decide +kernel
theorem dX7_touch_62 : decode cX7_touch 62 = .ok (.ireturn, 1) := by decide +kernel
theorem dX7_touch_63 : decode cX7_touch 63 = .ok (.aload_n 0, 1) := by decide +kernel
theorem dX7_touch_64 : decode cX7_touch 64 = .ok (.getfield 26, 3) := by decide +kernel
theorem dX7_touch_67 : decode cX7_touch 67 = .ok (.iload_n 2, 1) := by decide +kernel
theorem dX7_touch_68 : decode cX7_touch 68 = .ok (.iload_n 2, 1) := by decide +kernel
theorem dX7_touch_69 : decode cX7_touch 69 = .ok (.ifCond .ne 15, 3) := by decide +kernel
theorem dX7_touch_72 : decode cX7_touch 72 = .ok (.aload_n 0, 1) := by decide +kernel
theorem dX7_touch_73 : decode cX7_touch 73 = .ok (.getfield 26, 3) := by decide +kernel
theorem dX7_touch_76 : decode cX7_touch 76 = .ok (.lload 4, 2) := by decide +kernel
theorem dX7_touch_78 : decode cX7_touch 78 = .ok (.invokevirtual 264, 3) := by decide +kernel
theorem dX7_touch_81 : decode cX7_touch 81 = .ok (.goto 12, 3) := by decide +kernel
theorem dX7_touch_84 : decode cX7_touch 84 = .ok (.aload_n 0, 1) := by decide +kernel
theorem dX7_touch_85 : decode cX7_touch 85 = .ok (.getfield 26, 3) := by decide +kernel
theorem dX7_touch_88 : decode cX7_touch 88 = .ok (.lload 4, 2) := by decide +kernel
theorem dX7_touch_90 : decode cX7_touch 90 = .ok (.invokevirtual 267, 3) := by decide +kernel
theorem dX7_touch_93 : decode cX7_touch 93 = .ok (.iload_n 3, 1) := by decide +kernel
theorem dX7_touch_94 : decode cX7_touch 94 = .ok (.invokevirtual 270, 3) := by decide +kernel
theorem dX7_touch_97 : decode cX7_touch 97 = .ok (.istore 6, 2) := by decide +kernel
theorem dX7_touch_99 : decode cX7_touch 99 = .ok (.iload 6, 2) := by decide +kernel
theorem dX7_touch_101 : decode cX7_touch 101 = .ok (.invokestatic 273, 3) := by decide +kernel
theorem dX7_touch_104 : decode cX7_touch 104 = .ok (.ifCond .eq 12, 3) := by decide +kernel
theorem dX7_touch_107 : decode cX7_touch 107 = .ok (.iload 6, 2) := by decide +kernel
theorem dX7_touch_109 : decode cX7_touch 109 = .ok (.iconst 4, 1) := by decide +kernel
theorem dX7_touch_110 : decode cX7_touch 110 = .ok (.invokestatic 276, 3) := by decide +kernel
theorem dX7_touch_113 : decode cX7_touch 113 = .ok (.goto 5, 3) := by decide +kernel
theorem dX7_touch_116 : decode cX7_touch 116 = .ok (.bipush (-3), 2) := by decide +kernel
theorem dX7_touch_118 : decode cX7_touch 118 = .ok (.ireturn, 1) := by decide +kernel
theorem dX7_beams_0 : decode cX7_beams 0 = .ok (.aload_n 0, 1) := by decide +kernel
theorem dX7_beams_1 : decode cX7_beams 1 = .ok (.iload_n 1, 1) := by decide +kernel
theorem dX7_beams_2 : decode cX7_beams 2 = .ok (.invokevirtual 96, 3) := by decide +kernel
theorem dX7_beams_5 : decode cX7_beams 5 = .ok (.ifCond .eq 12, 3) := by decide +kernel
theorem dX7_beams_8 : decode cX7_beams 8 = .ok (.iload_n 2, 1) := by decide +kernel
theorem dX7_beams_9 : decode cX7_beams 9 = .ok (.ifCond .lt 8, 3) := by decide +kernel
theorem dX7_beams_12 : decode cX7_beams 12 = .ok (.iload_n 2, 1) := by decide +kernel
theorem dX7_beams_13 : decode cX7_beams 13 = .ok (.iconst 3, 1) := by decide +kernel
theorem dX7_beams_14 : decode cX7_beams 14 = .ok (.if_icmp .le 5, 3) := by decide +kernel
theorem dX7_beams_17 : decode cX7_beams 17 = .ok (.iconst (-1), 1) := by decide +kernel
theorem dX7_beams_18 : decode cX7_beams 18 = .ok (.ireturn, 1) := by decide +kernel
theorem dX7_beams_19 : decode cX7_beams 19 = .ok (.aload_n 0, 1) := by decide +kernel
theorem dX7_beams_20 : decode cX7_beams 20 = .ok (.iload_n 1, 1) := by decide +kernel
theorem dX7_beams_21 : decode cX7_beams 21 = .ok (.invokevirtual 127, 3) := by decide +kernel
theorem dX7_beams_24 : decode cX7_beams 24 = .ok (.ifCond .ne 6, 3) := by decide +kernel
theorem dX7_beams_27 : decode cX7_beams 27 = .ok (.bipush (-2), 2) := by decide +kernel
theorem dX7_beams_29 : decode cX7_beams 29 = .ok (.ireturn, 1) := by decide +kernel
theorem dX7_beams_30 : decode cX7_beams 30 = .ok (.iload_n 2, 1) := by decide +kernel
theorem dX7_beams_31 : decode cX7_beams 31 = .ok (.tableswitch 67 0 2 #[25, 34, 43], 25) := by decide +kernel
theorem dX7_beams_56 : decode cX7_beams 56 = .ok (.aload_n 0, 1) := by decide +kernel
theorem dX7_beams_57 : decode cX7_beams 57 = .ok (.getfield 51, 3) := by decide +kernel
theorem dX7_beams_60 : decode cX7_beams 60 = .ok (.iload_n 1, 1) := by decide +kernel
theorem dX7_beams_61 : decode cX7_beams 61 = .ok (.invokevirtual 279, 3) := by decide +kernel
theorem dX7_beams_64 : decode cX7_beams 64 = .ok (.ireturn, 1) := by decide +kernel
theorem dX7_beams_65 : decode cX7_beams 65 = .ok (.aload_n 0, 1) := by decide +kernel
theorem dX7_beams_66 : decode cX7_beams 66 = .ok (.getfield 51, 3) := by decide +kernel
theorem dX7_beams_69 : decode cX7_beams 69 = .ok (.iload_n 1, 1) := by decide +kernel
theorem dX7_beams_70 : decode cX7_beams 70 = .ok (.invokevirtual 282, 3) := by decide +kernel
theorem dX7_beams_73 : decode cX7_beams 73 = .ok (.ireturn, 1) := by decide +kernel
theorem dX7_beams_74 : decode cX7_beams 74 = .ok (.aload_n 0, 1) := by decide +kernel
theorem dX7_beams_75 : decode cX7_beams 75 = .ok (.getfield 51, 3) := by decide +kernel
theorem dX7_beams_78 : decode cX7_beams 78 = .ok (.iload_n 1, 1) := by decide +kernel
theorem dX7_beams_79 : decode cX7_beams 79 = .ok (.invokevirtual 285, 3) := by decide +kernel
theorem dX7_beams_82 : decode cX7_beams 82 = .ok (.ifCond .eq 14, 3) := by decide +kernel
theorem dX7_beams_85 : decode cX7_beams 85 = .ok (.aload_n 0, 1) := by decide +kernel
theorem dX7_beams_86 : decode cX7_beams 86 = .ok (.getfield 51, 3) := by decide +kernel
theorem dX7_beams_89 : decode cX7_beams 89 = .ok (.iload_n 1, 1) := by decide +kernel
theorem dX7_beams_90 : decode cX7_beams 90 = .ok (.invokevirtual 288, 3) := by decide +kernel
theorem dX7_beams_93 : decode cX7_beams 93 = .ok (.goto 4, 3) := by decide +kernel
theorem dX7_beams_96 : decode cX7_beams 96 = .ok (.iconst 0, 1) := by decide +kernel
theorem dX7_beams_97 : decode cX7_beams 97 = .ok (.ireturn, 1) := by decide +kernel
theorem dX7_beams_98 : decode cX7_beams 98 = .ok (.aload_n 0, 1) := by decide +kernel
theorem dX7_beams_99 : decode cX7_beams 99 = .ok (.getfield 51, 3) := by decide +kernel
theorem dX7_beams_102 : decode cX7_beams 102 = .ok (.iload_n 1, 1) := by decide +kernel
theorem dX7_beams_103 : decode cX7_beams 103 = .ok (.invokevirtual 285, 3) := by decide +kernel
theorem dX7_beams_106 : decode cX7_beams 106 = .ok (.ifCond .eq 7, 3) := by decide +kernel
theorem dX7_beams_109 : decode cX7_beams 109 = .ok (.iconst 0, 1) := by decide +kernel
theorem dX7_beams_110 : decode cX7_beams 110 = .ok (.goto 11, 3) := by decide +kernel
theorem dX7_beams_113 : decode cX7_beams 113 = .ok (.aload_n 0, 1) := by decide +kernel
theorem dX7_beams_114 : decode cX7_beams 114 = .ok (.getfield 51, 3) := by decide +kernel
theorem dX7_beams_117 : decode cX7_beams 117 = .ok (.iload_n 1, 1) := by decide +kernel
theorem dX7_beams_118 : decode cX7_beams 118 = .ok (.invokevirtual 288, 3) := by decide +kernel
theorem dX7_beams_121 : decode cX7_beams 121 = .ok (.ireturn, 1) := by decide +kernel
theorem dX7_total_0 : decode cX7_total 0 = .ok (.iload_n 1, 1) := by decide +kernel
theorem dX7_total_1 : decode cX7_total 1 = .ok (.invokestatic 291, 3) := by decide +kernel
theorem dX7_total_4 : decode cX7_total 4 = .ok (.ifCond .ne 5, 3) := by decide +kernel
theorem dX7_total_7 : decode cX7_total 7 = .ok (.iconst (-1), 1) := by decide +kernel
theorem dX7_total_8 : decode cX7_total 8 = .ok (.ireturn, 1) := by decide +kernel
theorem dX7_total_9 : decode cX7_total 9 = .ok (.aload_n 0, 1) := by decide +kernel
theorem dX7_total_10 : decode cX7_total 10 = .ok (.getfield 33, 3) := by decide +kernel
theorem dX7_total_13 : decode cX7_total 13 = .ok (.aload_n 0, 1) := by decide +kernel
theorem dX7_total_14 : decode cX7_total 14 = .ok (.getfield 51, 3) := by decide +kernel
theorem dX7_total_17 : decode cX7_total 17 = .ok (.aload_n 0, 1) := by decide +kernel
theorem dX7_total_18 : decode cX7_total 18 = .ok (.getfield 51, 3) := by decide +kernel
theorem dX7_total_21 : decode cX7_total 21 = .ok (.getfield 144, 3) := by decide +kernel
theorem dX7_total_24 : decode cX7_total 24 = .ok (.aload_n 0, 1) := by decide +kernel
theorem dX7_total_25 : decode cX7_total 25 = .ok (.getfield 51, 3) := by decide +kernel
theorem dX7_total_28 : decode cX7_total 28 = .ok (.getfield 294, 3) := by decide +kernel
theorem dX7_total_31 : decode cX7_total 31 = .ok (.aload_n 0, 1) := by decide +kernel
theorem dX7_total_32 : decode cX7_total 32 = .ok (.getfield 26, 3) := by decide +kernel
theorem dX7_total_35 : decode cX7_total 35 = .ok (.invokevirtual 297, 3) := by decide +kernel
theorem dX7_total_38 : decode cX7_total 38 = .ok (.aload_n 0, 1) := by decide +kernel
theorem dX7_total_39 : decode cX7_total 39 = .ok (.getfield 33, 3) := by decide +kernel
theorem dX7_total_42 : decode cX7_total 42 = .ok (.iload_n 1, 1) := by decide +kernel
theorem dX7_total_43 : decode cX7_total 43 = .ok (.invokevirtual 301, 3) := by decide +kernel
theorem dX7_total_46 : decode cX7_total 46 = .ok (.ireturn, 1) := by decide +kernel
theorem dX7_ifPut_0 : decode cX7_ifPut 0 = .ok (.aload_n 0, 1) := by decide +kernel
theorem dX7_ifPut_1 : decode cX7_ifPut 1 = .ok (.iload_n 1, 1) := by decide +kernel
theorem dX7_ifPut_2 : decode cX7_ifPut 2 = .ok (.invokevirtual 127, 3) := by decide +kernel
theorem dX7_ifPut_5 : decode cX7_ifPut 5 = .ok (.ifCond .eq 10, 3) := by decide +kernel
theorem dX7_ifPut_8 : decode cX7_ifPut 8 = .ok (.iload_n 2, 1) := by decide +kernel
theorem dX7_ifPut_9 : decode cX7_ifPut 9 = .ok (.invokestatic 154, 3) := by decide +kernel
theorem dX7_ifPut_12 : decode cX7_ifPut 12 = .ok (.ifCond .ne 6, 3) := by decide +kernel
theorem dX7_ifPut_15 : decode cX7_ifPut 15 = .ok (.ldc 147, 2) := by decide +kernel
theorem dX7_ifPut_17 : decode cX7_ifPut 17 = .ok (.ireturn, 1) := by decide +kernel
theorem dX7_ifPut_18 : decode cX7_ifPut 18 = .ok (.aload_n 0, 1) := by decide +kernel
theorem dX7_ifPut_19 : decode cX7_ifPut 19 = .ok (.iconst 0, 1) := by decide +kernel
theorem dX7_ifPut_20 : decode cX7_ifPut 20 = .ok (.invokevirtual 303, 3) := by decide +kernel
theorem dX7_ifPut_23 : decode cX7_ifPut 23 = .ok (.pop, 1) := by decide +kernel
theorem dX7_ifPut_24 : decode cX7_ifPut 24 = .ok (.aload_n 0, 1) := by decide +kernel
theorem dX7_ifPut_25 : decode cX7_ifPut 25 = .ok (.getfield 46, 3) := by decide +kernel
theorem dX7_ifPut_28 : decode cX7_ifPut 28 = .ok (.iload_n 1, 1) := by decide +kernel
theorem dX7_ifPut_29 : decode cX7_ifPut 29 = .ok (.iload_n 2, 1) := by decide +kernel
theorem dX7_ifPut_30 : decode cX7_ifPut 30 = .ok (.iastore, 1) := by decide +kernel
theorem dX7_ifPut_31 : decode cX7_ifPut 31 = .ok (.aload_n 0, 1) := by decide +kernel
theorem dX7_ifPut_32 : decode cX7_ifPut 32 = .ok (.aload_n 0, 1) := by decide +kernel
theorem dX7_ifPut_33 : decode cX7_ifPut 33 = .ok (.getfield 51, 3) := by decide +kernel
theorem dX7_ifPut_36 : decode cX7_ifPut 36 = .ok (.getfield 130, 3) := by decide +kernel
theorem dX7_ifPut_39 : decode cX7_ifPut 39 = .ok (.iload_n 1, 1) := by decide +kernel
theorem dX7_ifPut_40 : decode cX7_ifPut 40 = .ok (.iaload, 1) := by decide +kernel
theorem dX7_ifPut_41 : decode cX7_ifPut 41 = .ok (.invokevirtual 306, 3) := by decide +kernel
theorem dX7_ifPut_44 : decode cX7_ifPut 44 = .ok (.aload_n 0, 1) := by decide +kernel
theorem dX7_ifPut_45 : decode cX7_ifPut 45 = .ok (.iload_n 3, 1) := by decide +kernel
theorem dX7_ifPut_46 : decode cX7_ifPut 46 = .ok (.invokevirtual 216, 3) := by decide +kernel
theorem dX7_ifPut_49 : decode cX7_ifPut 49 = .ok (.ireturn, 1) := by decide +kernel
theorem dX7_wish_0 : decode cX7_wish 0 = .ok (.aload_n 0, 1) := by decide +kernel
theorem dX7_wish_1 : decode cX7_wish 1 = .ok (.iload_n 1, 1) := by decide +kernel
theorem dX7_wish_2 : decode cX7_wish 2 = .ok (.invokevirtual 127, 3) := by decide +kernel
theorem dX7_wish_5 : decode cX7_wish 5 = .ok (.ifCond .ne 6, 3) := by decide +kernel
theorem dX7_wish_8 : decode cX7_wish 8 = .ok (.ldc 147, 2) := by decide +kernel
theorem dX7_wish_10 : decode cX7_wish 10 = .ok (.ireturn, 1) := by decide +kernel
theorem dX7_wish_11 : decode cX7_wish 11 = .ok (.aload_n 0, 1) := by decide +kernel
theorem dX7_wish_12 : decode cX7_wish 12 = .ok (.iconst 0, 1) := by decide +kernel
theorem dX7_wish_13 : decode cX7_wish 13 = .ok (.invokevirtual 303, 3) := by decide +kernel
theorem dX7_wish_16 : decode cX7_wish 16 = .ok (.pop, 1) := by decide +kernel
theorem dX7_wish_17 : decode cX7_wish 17 = .ok (.aload_n 0, 1) := by decide +kernel
theorem dX7_wish_18 : decode cX7_wish 18 = .ok (.getfield 51, 3) := by decide +kernel
theorem dX7_wish_21 : decode cX7_wish 21 = .ok (.getfield 144, 3) := by decide +kernel
theorem dX7_wish_24 : decode cX7_wish 24 = .ok (.iload_n 1, 1) := by decide +kernel
theorem dX7_wish_25 : decode cX7_wish 25 = .ok (.iaload, 1) := by decide +kernel
theorem dX7_wish_26 : decode cX7_wish 26 = .ok (.istore_n 2, 1) := by decide +kernel
theorem dX7_wish_27 : decode cX7_wish 27 = .ok (.ldc 147, 2) := by decide +kernel
theorem dX7_wish_29 : decode cX7_wish 29 = .ok (.istore_n 3, 1) := by decide +kernel
theorem dX7_wish_30 : decode cX7_wish 30 = .ok (.ldc_w 309, 3) := by decide +kernel
theorem dX7_wish_33 : decode cX7_wish 33 = .ok (.istore 4, 2) := by decide +kernel
theorem dX7_wish_35 : decode cX7_wish 35 = .ok (.iconst 0, 1) := by decide +kernel
theorem dX7_wish_36 : decode cX7_wish 36 = .ok (.istore 5, 2) := by decide +kernel
theorem dX7_wish_38 : decode cX7_wish 38 = .ok (.iload 5, 2) := by decide +kernel
theorem dX7_wish_40 : decode cX7_wish 40 = .ok (.bipush 49, 2) := by decide +kernel
theorem dX7_wish_42 : decode cX7_wish 42 = .ok (.if_icmp .gt 85, 3) := by decide +kernel
theorem dX7_wish_45 : decode cX7_wish 45 = .ok (.iload_n 2, 1) := by decide +kernel
theorem dX7_wish_46 : decode cX7_wish 46 = .ok (.iload 5, 2) := by decide +kernel
theorem dX7_wish_48 : decode cX7_wish 48 = .ok (.invokestatic 310, 3) := by decide +kernel
theorem dX7_wish_51 : decode cX7_wish 51 = .ok (.iadd, 1) := by decide +kernel
theorem dX7_wish_52 : decode cX7_wish 52 = .ok (.istore 6, 2) := by decide +kernel
theorem dX7_wish_54 : decode cX7_wish 54 = .ok (.iload 6, 2) := by decide +kernel
theorem dX7_wish_56 : decode cX7_wish 56 = .ok (.invokestatic 154, 3) := by decide +kernel
theorem dX7_wish_59 : decode cX7_wish 59 = .ok (.ifCond .eq 62, 3) := by decide +kernel
theorem dX7_wish_62 : decode cX7_wish 62 = .ok (.aload_n 0, 1) := by decide +kernel
theorem dX7_wish_63 : decode cX7_wish 63 = .ok (.getfield 46, 3) := by decide +kernel
theorem dX7_wish_66 : decode cX7_wish 66 = .ok (.iload_n 1, 1) := by decide +kernel
theorem dX7_wish_67 : decode cX7_wish 67 = .ok (.iload 6, 2) := by decide +kernel
theorem dX7_wish_69 : decode cX7_wish 69 = .ok (.iastore, 1) := by decide +kernel
theorem dX7_wish_70 : decode cX7_wish 70 = .ok (.aload_n 0, 1) := by decide +kernel
theorem dX7_wish_71 : decode cX7_wish 71 = .ok (.aload_n 0, 1) := by decide +kernel
theorem dX7_wish_72 : decode cX7_wish 72 = .ok (.getfield 51, 3) := by decide +kernel
theorem dX7_wish_75 : decode cX7_wish 75 = .ok (.getfield 130, 3) := by decide +kernel
theorem dX7_wish_78 : decode cX7_wish 78 = .ok (.iload_n 1, 1) := by decide +kernel
theorem dX7_wish_79 : decode cX7_wish 79 = .ok (.iaload, 1) := by decide +kernel
theorem dX7_wish_80 : decode cX7_wish 80 = .ok (.invokevirtual 306, 3) := by decide +kernel
theorem dX7_wish_83 : decode cX7_wish 83 = .ok (.aload_n 0, 1) := by decide +kernel
theorem dX7_wish_84 : decode cX7_wish 84 = .ok (.getfield 26, 3) := by decide +kernel
theorem dX7_wish_87 : decode cX7_wish 87 = .ok (.invokevirtual 238, 3) := by decide +kernel
theorem dX7_wish_90 : decode cX7_wish 90 = .ok (.lstore 7, 2) := by decide +kernel
theorem dX7_wish_92 : decode cX7_wish 92 = .ok (.lload 7, 2) := by decide +kernel
theorem dX7_wish_94 : decode cX7_wish 94 = .ok (.ldc2_w 242, 3) := by decide +kernel
theorem dX7_wish_97 : decode cX7_wish 97 = .ok (.lcmp, 1) := by decide +kernel
theorem dX7_wish_98 : decode cX7_wish 98 = .ok (.ifCond .eq 23, 3) := by decide +kernel
theorem dX7_wish_101 : decode cX7_wish 101 = .ok (.lload 7, 2) := by decide +kernel
theorem dX7_wish_103 : decode cX7_wish 103 = .ok (.invokestatic 313, 3) := by decide +kernel
theorem dX7_wish_106 : decode cX7_wish 106 = .ok (.iload 4, 2) := by decide +kernel
theorem dX7_wish_108 : decode cX7_wish 108 = .ok (.if_icmp .ge 13, 3) := by decide +kernel
theorem dX7_wish_111 : decode cX7_wish 111 = .ok (.lload 7, 2) := by decide +kernel
theorem dX7_wish_113 : decode cX7_wish 113 = .ok (.invokestatic 313, 3) := by decide +kernel
theorem dX7_wish_116 : decode cX7_wish 116 = .ok (.istore 4, 2) := by decide +kernel
theorem dX7_wish_118 : decode cX7_wish 118 = .ok (.iload 6, 2) := by decide +kernel
theorem dX7_wish_120 : decode cX7_wish 120 = .ok (.istore_n 3, 1) := by decide +kernel
theorem dX7_wish_121 : decode cX7_wish 121 = .ok (.iinc 5 1, 3) := by decide +kernel
theorem dX7_wish_124 : decode cX7_wish 124 = .ok (.goto (-86), 3) := by decide +kernel
theorem dX7_wish_127 : decode cX7_wish 127 = .ok (.iload_n 3, 1) := by decide +kernel
theorem dX7_wish_128 : decode cX7_wish 128 = .ok (.ireturn, 1) := by decide +kernel
theorem dX7_ifShifted_0 : decode cX7_ifShifted 0 = .ok (.iload_n 1, 1) := by decide +kernel
theorem dX7_ifShifted_1 : decode cX7_ifShifted 1 = .ok (.invokestatic 154, 3) := by decide +kernel
theorem dX7_ifShifted_4 : decode cX7_ifShifted 4 = .ok (.ifCond .eq 18, 3) := by decide +kernel
theorem dX7_ifShifted_7 : decode cX7_ifShifted 7 = .ok (.iload_n 2, 1) := by decide +kernel
theorem dX7_ifShifted_8 : decode cX7_ifShifted 8 = .ok (.invokestatic 291, 3) := by decide +kernel
theorem dX7_ifShifted_11 : decode cX7_ifShifted 11 = .ok (.ifCond .eq 11, 3) := by decide +kernel
theorem dX7_ifShifted_14 : decode cX7_ifShifted 14 = .ok (.aload_n 0, 1) := by decide +kernel
theorem dX7_ifShifted_15 : decode cX7_ifShifted 15 = .ok (.iload_n 1, 1) := by decide +kernel
theorem dX7_ifShifted_16 : decode cX7_ifShifted 16 = .ok (.invokevirtual 303, 3) := by decide +kernel
theorem dX7_ifShifted_19 : decode cX7_ifShifted 19 = .ok (.ifCond .ne 5, 3) := by decide +kernel
theorem dX7_ifShifted_22 : decode cX7_ifShifted 22 = .ok (.iconst (-1), 1) := by decide +kernel
theorem dX7_ifShifted_23 : decode cX7_ifShifted 23 = .ok (.ireturn, 1) := by decide +kernel
theorem dX7_ifShifted_24 : decode cX7_ifShifted 24 = .ok (.aload_n 0, 1) := by decide +kernel
theorem dX7_ifShifted_25 : decode cX7_ifShifted 25 = .ok (.getfield 33, 3) := by decide +kernel
theorem dX7_ifShifted_28 : decode cX7_ifShifted 28 = .ok (.aload_n 0, 1) := by decide +kernel
theorem dX7_ifShifted_29 : decode cX7_ifShifted 29 = .ok (.getfield 51, 3) := by decide +kernel
theorem dX7_ifShifted_32 : decode cX7_ifShifted 32 = .ok (.aload_n 0, 1) := by decide +kernel
theorem dX7_ifShifted_33 : decode cX7_ifShifted 33 = .ok (.getfield 46, 3) := by decide +kernel
theorem dX7_ifShifted_36 : decode cX7_ifShifted 36 = .ok (.aload_n 0, 1) := by decide +kernel
theorem dX7_ifShifted_37 : decode cX7_ifShifted 37 = .ok (.getfield 51, 3) := by decide +kernel
theorem dX7_ifShifted_40 : decode cX7_ifShifted 40 = .ok (.getfield 294, 3) := by decide +kernel
theorem dX7_ifShifted_43 : decode cX7_ifShifted 43 = .ok (.aload_n 0, 1) := by decide +kernel
theorem dX7_ifShifted_44 : decode cX7_ifShifted 44 = .ok (.getfield 26, 3) := by decide +kernel
theorem dX7_ifShifted_47 : decode cX7_ifShifted 47 = .ok (.invokevirtual 297, 3) := by decide +kernel
theorem dX7_ifShifted_50 : decode cX7_ifShifted 50 = .ok (.aload_n 0, 1) := by decide +kernel
theorem dX7_ifShifted_51 : decode cX7_ifShifted 51 = .ok (.getfield 33, 3) := by decide +kernel
theorem dX7_ifShifted_54 : decode cX7_ifShifted 54 = .ok (.iload_n 2, 1) := by decide +kernel
theorem dX7_ifShifted_55 : decode cX7_ifShifted 55 = .ok (.invokevirtual 301, 3) := by decide +kernel
theorem dX7_ifShifted_58 : decode cX7_ifShifted 58 = .ok (.ireturn, 1) := by decide +kernel
theorem dX7_shift_0 : decode cX7_shift 0 = .ok (.aload_n 0, 1) := by decide +kernel
theorem dX7_shift_1 : decode cX7_shift 1 = .ok (.getfield 51, 3) := by decide +kernel
theorem dX7_shift_4 : decode cX7_shift 4 = .ok (.getfield 316, 3) := by decide +kernel
theorem dX7_shift_7 : decode cX7_shift 7 = .ok (.ifCond .ne 6, 3) := by decide +kernel
theorem dX7_shift_10 : decode cX7_shift 10 = .ok (.ldc 147, 2) := by decide +kernel
theorem dX7_shift_12 : decode cX7_shift 12 = .ok (.ireturn, 1) := by decide +kernel
theorem dX7_shift_13 : decode cX7_shift 13 = .ok (.iconst 0, 1) := by decide +kernel
theorem dX7_shift_14 : decode cX7_shift 14 = .ok (.istore_n 1, 1) := by decide +kernel
theorem dX7_shift_15 : decode cX7_shift 15 = .ok (.ldc2_w 242, 3) := by decide +kernel
theorem dX7_shift_18 : decode cX7_shift 18 = .ok (.lstore_n 2, 1) := by decide +kernel
theorem dX7_shift_19 : decode cX7_shift 19 = .ok (.iconst 0, 1) := by decide +kernel
theorem dX7_shift_20 : decode cX7_shift 20 = .ok (.istore 4, 2) := by decide +kernel
theorem dX7_shift_22 : decode cX7_shift 22 = .ok (.iload 4, 2) := by decide +kernel
theorem dX7_shift_24 : decode cX7_shift 24 = .ok (.bipush 24, 2) := by decide +kernel
theorem dX7_shift_26 : decode cX7_shift 26 = .ok (.if_icmp .gt 72, 3) := by decide +kernel
theorem dX7_shift_29 : decode cX7_shift 29 = .ok (.aload_n 0, 1) := by decide +kernel
theorem dX7_shift_30 : decode cX7_shift 30 = .ok (.iload 4, 2) := by decide +kernel
theorem dX7_shift_32 : decode cX7_shift 32 = .ok (.invokestatic 310, 3) := by decide +kernel
theorem dX7_shift_35 : decode cX7_shift 35 = .ok (.invokevirtual 303, 3) := by decide +kernel
theorem dX7_shift_38 : decode cX7_shift 38 = .ok (.ifCond .eq 54, 3) := by decide +kernel
theorem dX7_shift_41 : decode cX7_shift 41 = .ok (.aload_n 0, 1) := by decide +kernel
theorem dX7_shift_42 : decode cX7_shift 42 = .ok (.getfield 33, 3) := by decide +kernel
theorem dX7_shift_45 : decode cX7_shift 45 = .ok (.aload_n 0, 1) := by decide +kernel
theorem dX7_shift_46 : decode cX7_shift 46 = .ok (.getfield 51, 3) := by decide +kernel
theorem dX7_shift_49 : decode cX7_shift 49 = .ok (.aload_n 0, 1) := by decide +kernel
theorem dX7_shift_50 : decode cX7_shift 50 = .ok (.getfield 46, 3) := by decide +kernel
theorem dX7_shift_53 : decode cX7_shift 53 = .ok (.aload_n 0, 1) := by decide +kernel
theorem dX7_shift_54 : decode cX7_shift 54 = .ok (.getfield 51, 3) := by decide +kernel
theorem dX7_shift_57 : decode cX7_shift 57 = .ok (.getfield 294, 3) := by decide +kernel
theorem dX7_shift_60 : decode cX7_shift 60 = .ok (.aload_n 0, 1) := by decide +kernel
theorem dX7_shift_61 : decode cX7_shift 61 = .ok (.getfield 26, 3) := by decide +kernel
theorem dX7_shift_64 : decode cX7_shift 64 = .ok (.invokevirtual 297, 3) := by decide +kernel
theorem dX7_shift_67 : decode cX7_shift 67 = .ok (.aload_n 0, 1) := by decide +kernel
theorem dX7_shift_68 : decode cX7_shift 68 = .ok (.getfield 33, 3) := by decide +kernel
theorem dX7_shift_71 : decode cX7_shift 71 = .ok (.invokevirtual 319, 3) := by decide +kernel
theorem dX7_shift_74 : decode cX7_shift 74 = .ok (.lstore 5, 2) := by decide +kernel
theorem dX7_shift_76 : decode cX7_shift 76 = .ok (.lload 5, 2) := by decide +kernel
theorem dX7_shift_78 : decode cX7_shift 78 = .ok (.lload_n 2, 1) := by decide +kernel
theorem dX7_shift_79 : decode cX7_shift 79 = .ok (.lcmp, 1) := by decide +kernel
theorem dX7_shift_80 : decode cX7_shift 80 = .ok (.ifCond .ge 12, 3) := by decide +kernel
theorem dX7_shift_83 : decode cX7_shift 83 = .ok (.lload 5, 2) := by decide +kernel
theorem dX7_shift_85 : decode cX7_shift 85 = .ok (.lstore_n 2, 1) := by decide +kernel
theorem dX7_shift_86 : decode cX7_shift 86 = .ok (.iload 4, 2) := by decide +kernel
theorem dX7_shift_88 : decode cX7_shift 88 = .ok (.invokestatic 310, 3) := by decide +kernel
theorem dX7_shift_91 : decode cX7_shift 91 = .ok (.istore_n 1, 1) := by decide +kernel
theorem dX7_shift_92 : decode cX7_shift 92 = .ok (.iinc 4 1, 3) := by decide +kernel
theorem dX7_shift_95 : decode cX7_shift 95 = .ok (.goto (-73), 3) := by decide +kernel
theorem dX7_shift_98 : decode cX7_shift 98 = .ok (.iload_n 1, 1) := by decide +kernel
theorem dX7_shift_99 : decode cX7_shift 99 = .ok (.ireturn, 1) := by decide +kernel
theorem dX7_mirrored_0 : decode cX7_mirrored 0 = .ok (.aload_n 0, 1) := by decide +kernel
theorem dX7_mirrored_1 : decode cX7_mirrored 1 = .ok (.iload_n 1, 1) := by decide +kernel
theorem dX7_mirrored_2 : decode cX7_mirrored 2 = .ok (.invokevirtual 171, 3) := by decide +kernel
theorem dX7_mirrored_5 : decode cX7_mirrored 5 = .ok (.ifCond .ne 5, 3) := by decide +kernel
theorem dX7_mirrored_8 : decode cX7_mirrored 8 = .ok (.iconst (-1), 1) := by decide +kernel
theorem dX7_mirrored_9 : decode cX7_mirrored 9 = .ok (.ireturn, 1) := by decide +kernel
theorem dX7_mirrored_10 : decode cX7_mirrored 10 = .ok (.aload_n 0, 1) := by decide +kernel
theorem dX7_mirrored_11 : decode cX7_mirrored 11 = .ok (.iload_n 1, 1) := by decide +kernel
theorem dX7_mirrored_12 : decode cX7_mirrored 12 = .ok (.invokevirtual 176, 3) := by decide +kernel
theorem dX7_mirrored_15 : decode cX7_mirrored 15 = .ok (.aload_n 0, 1) := by decide +kernel
theorem dX7_mirrored_16 : decode cX7_mirrored 16 = .ok (.getfield 26, 3) := by decide +kernel
theorem dX7_mirrored_19 : decode cX7_mirrored 19 = .ok (.invokevirtual 238, 3) := by decide +kernel
theorem dX7_mirrored_22 : decode cX7_mirrored 22 = .ok (.lstore_n 2, 1) := by decide +kernel
theorem dX7_mirrored_23 : decode cX7_mirrored 23 = .ok (.lload_n 2, 1) := by decide +kernel
theorem dX7_mirrored_24 : decode cX7_mirrored 24 = .ok (.ldc2_w 242, 3) := by decide +kernel
theorem dX7_mirrored_27 : decode cX7_mirrored 27 = .ok (.lcmp, 1) := by decide +kernel
theorem dX7_mirrored_28 : decode cX7_mirrored 28 = .ok (.ifCond .ne 6, 3) := by decide +kernel
theorem dX7_mirrored_31 : decode cX7_mirrored 31 = .ok (.bipush (-2), 2) := by decide +kernel
theorem dX7_mirrored_33 : decode cX7_mirrored 33 = .ok (.ireturn, 1) := by decide +kernel
theorem dX7_mirrored_34 : decode cX7_mirrored 34 = .ok (.aload_n 0, 1) := by decide +kernel
theorem dX7_mirrored_35 : decode cX7_mirrored 35 = .ok (.getfield 26, 3) := by decide +kernel
theorem dX7_mirrored_38 : decode cX7_mirrored 38 = .ok (.lload_n 2, 1) := by decide +kernel
theorem dX7_mirrored_39 : decode cX7_mirrored 39 = .ok (.invokevirtual 264, 3) := by decide +kernel
theorem dX7_mirrored_42 : decode cX7_mirrored 42 = .ok (.istore 4, 2) := by decide +kernel
theorem dX7_mirrored_44 : decode cX7_mirrored 44 = .ok (.aload_n 0, 1) := by decide +kernel
theorem dX7_mirrored_45 : decode cX7_mirrored 45 = .ok (.getfield 26, 3) := by decide +kernel
theorem dX7_mirrored_48 : decode cX7_mirrored 48 = .ok (.lload_n 2, 1) := by decide +kernel
theorem dX7_mirrored_49 : decode cX7_mirrored 49 = .ok (.invokevirtual 267, 3) := by decide +kernel
theorem dX7_mirrored_52 : decode cX7_mirrored 52 = .ok (.istore 5, 2) := by decide +kernel
theorem dX7_mirrored_54 : decode cX7_mirrored 54 = .ok (.iconst 0, 1) := by decide +kernel
theorem dX7_mirrored_55 : decode cX7_mirrored 55 = .ok (.istore 6, 2) := by decide +kernel
theorem dX7_mirrored_57 : decode cX7_mirrored 57 = .ok (.iload 6, 2) := by decide +kernel
theorem dX7_mirrored_59 : decode cX7_mirrored 59 = .ok (.aload_n 0, 1) := by decide +kernel
theorem dX7_mirrored_60 : decode cX7_mirrored 60 = .ok (.getfield 51, 3) := by decide +kernel
theorem dX7_mirrored_63 : decode cX7_mirrored 63 = .ok (.getfield 322, 3) := by decide +kernel
theorem dX7_mirrored_66 : decode cX7_mirrored 66 = .ok (.if_icmp .ge 27, 3) := by decide +kernel
theorem dX7_mirrored_69 : decode cX7_mirrored 69 = .ok (.aload_n 0, 1) := by decide +kernel
theorem dX7_mirrored_70 : decode cX7_mirrored 70 = .ok (.getfield 46, 3) := by decide +kernel
theorem dX7_mirrored_73 : decode cX7_mirrored 73 = .ok (.iload 6, 2) := by decide +kernel
theorem dX7_mirrored_75 : decode cX7_mirrored 75 = .ok (.aload_n 0, 1) := by decide +kernel
theorem dX7_mirrored_76 : decode cX7_mirrored 76 = .ok (.getfield 51, 3) := by decide +kernel
theorem dX7_mirrored_79 : decode cX7_mirrored 79 = .ok (.getfield 144, 3) := by decide +kernel
theorem dX7_mirrored_82 : decode cX7_mirrored 82 = .ok (.iload 6, 2) := by decide +kernel
theorem dX7_mirrored_84 : decode cX7_mirrored 84 = .ok (.iaload, 1) := by decide +kernel
theorem dX7_mirrored_85 : decode cX7_mirrored 85 = .ok (.ineg, 1) := by decide +kernel
theorem dX7_mirrored_86 : decode cX7_mirrored 86 = .ok (.iastore, 1) := by decide +kernel
theorem dX7_mirrored_87 : decode cX7_mirrored 87 = .ok (.iinc 6 1, 3) := by decide +kernel
theorem dX7_mirrored_90 : decode cX7_mirrored 90 = .ok (.goto (-33), 3) := by decide +kernel
theorem dX7_mirrored_93 : decode cX7_mirrored 93 = .ok (.aload_n 0, 1) := by decide +kernel
theorem dX7_mirrored_94 : decode cX7_mirrored 94 = .ok (.iload_n 1, 1) := by decide +kernel
theorem dX7_mirrored_95 : decode cX7_mirrored 95 = .ok (.invokevirtual 306, 3) := by decide +kernel
theorem dX7_mirrored_98 : decode cX7_mirrored 98 = .ok (.aload_n 0, 1) := by decide +kernel
theorem dX7_mirrored_99 : decode cX7_mirrored 99 = .ok (.getfield 26, 3) := by decide +kernel
theorem dX7_mirrored_102 : decode cX7_mirrored 102 = .ok (.invokevirtual 238, 3) := by decide +kernel
theorem dX7_mirrored_105 : decode cX7_mirrored 105 = .ok (.lstore_n 2, 1) := by decide +kernel
theorem dX7_mirrored_106 : decode cX7_mirrored 106 = .ok (.lload_n 2, 1) := by decide +kernel
theorem dX7_mirrored_107 : decode cX7_mirrored 107 = .ok (.ldc2_w 242, 3) := by decide +kernel
theorem dX7_mirrored_110 : decode cX7_mirrored 110 = .ok (.lcmp, 1) := by decide +kernel
theorem dX7_mirrored_111 : decode cX7_mirrored 111 = .ok (.ifCond .ne 6, 3) := by decide +kernel
theorem dX7_mirrored_114 : decode cX7_mirrored 114 = .ok (.bipush (-2), 2) := by decide +kernel
theorem dX7_mirrored_116 : decode cX7_mirrored 116 = .ok (.ireturn, 1) := by decide +kernel
theorem dX7_mirrored_117 : decode cX7_mirrored 117 = .ok (.aload_n 0, 1) := by decide +kernel
theorem dX7_mirrored_118 : decode cX7_mirrored 118 = .ok (.getfield 26, 3) := by decide +kernel
theorem dX7_mirrored_121 : decode cX7_mirrored 121 = .ok (.lload_n 2, 1) := by decide +kernel
theorem dX7_mirrored_122 : decode cX7_mirrored 122 = .ok (.invokevirtual 264, 3) := by decide +kernel
theorem dX7_mirrored_125 : decode cX7_mirrored 125 = .ok (.iload 4, 2) := by decide +kernel
theorem dX7_mirrored_127 : decode cX7_mirrored 127 = .ok (.ineg, 1) := by decide +kernel
theorem dX7_mirrored_128 : decode cX7_mirrored 128 = .ok (.if_icmp .ne 21, 3) := by decide +kernel
theorem dX7_mirrored_131 : decode cX7_mirrored 131 = .ok (.aload_n 0, 1) := by decide +kernel
theorem dX7_mirrored_132 : decode cX7_mirrored 132 = .ok (.getfield 26, 3) := by decide +kernel
theorem dX7_mirrored_135 : decode cX7_mirrored 135 = .ok (.lload_n 2, 1) := by decide +kernel
theorem dX7_mirrored_136 : decode cX7_mirrored 136 = .ok (.invokevirtual 267, 3) := by decide +kernel
theorem dX7_mirrored_139 : decode cX7_mirrored 139 = .ok (.iload 5, 2) := by decide +kernel
theorem dX7_mirrored_141 : decode cX7_mirrored 141 = .ok (.ineg, 1) := by decide +kernel
theorem dX7_mirrored_142 : decode cX7_mirrored 142 = .ok (.if_icmp .ne 7, 3) := by decide +kernel
theorem dX7_mirrored_145 : decode cX7_mirrored 145 = .ok (.iconst 1, 1) := by decide +kernel
theorem dX7_mirrored_146 : decode cX7_mirrored 146 = .ok (.goto 4, 3) := by decide +kernel
theorem dX7_mirrored_149 : decode cX7_mirrored 149 = .ok (.iconst 0, 1) := by decide +kernel
theorem dX7_mirrored_150 : decode cX7_mirrored 150 = .ok (.ireturn, 1) := by decide +kernel
theorem dX7_ifKnee_0 : decode cX7_ifKnee 0 = .ok (.iload_n 1, 1) := by decide +kernel
theorem dX7_ifKnee_1 : decode cX7_ifKnee 1 = .ok (.iconst 4, 1) := by decide +kernel
theorem dX7_ifKnee_2 : decode cX7_ifKnee 2 = .ok (.if_icmp .lt 16, 3) := by decide +kernel
theorem dX7_ifKnee_5 : decode cX7_ifKnee 5 = .ok (.iload_n 1, 1) := by decide +kernel
theorem dX7_ifKnee_6 : decode cX7_ifKnee 6 = .ok (.bipush 24, 2) := by decide +kernel
theorem dX7_ifKnee_8 : decode cX7_ifKnee 8 = .ok (.if_icmp .gt 10, 3) := by decide +kernel
theorem dX7_ifKnee_11 : decode cX7_ifKnee 11 = .ok (.iload_n 2, 1) := by decide +kernel
theorem dX7_ifKnee_12 : decode cX7_ifKnee 12 = .ok (.invokestatic 291, 3) := by decide +kernel
theorem dX7_ifKnee_15 : decode cX7_ifKnee 15 = .ok (.ifCond .ne 5, 3) := by decide +kernel
theorem dX7_ifKnee_18 : decode cX7_ifKnee 18 = .ok (.iconst (-1), 1) := by decide +kernel
theorem dX7_ifKnee_19 : decode cX7_ifKnee 19 = .ok (.ireturn, 1) := by decide +kernel
theorem dX7_ifKnee_20 : decode cX7_ifKnee 20 = .ok (.aload_n 0, 1) := by decide +kernel
theorem dX7_ifKnee_21 : decode cX7_ifKnee 21 = .ok (.getfield 33, 3) := by decide +kernel
theorem dX7_ifKnee_24 : decode cX7_ifKnee 24 = .ok (.aload_n 0, 1) := by decide +kernel
theorem dX7_ifKnee_25 : decode cX7_ifKnee 25 = .ok (.getfield 51, 3) := by decide +kernel
theorem dX7_ifKnee_28 : decode cX7_ifKnee 28 = .ok (.aload_n 0, 1) := by decide +kernel
theorem dX7_ifKnee_29 : decode cX7_ifKnee 29 = .ok (.getfield 51, 3) := by decide +kernel
theorem dX7_ifKnee_32 : decode cX7_ifKnee 32 = .ok (.getfield 144, 3) := by decide +kernel
theorem dX7_ifKnee_35 : decode cX7_ifKnee 35 = .ok (.iload_n 1, 1) := by decide +kernel
theorem dX7_ifKnee_36 : decode cX7_ifKnee 36 = .ok (.aload_n 0, 1) := by decide +kernel
theorem dX7_ifKnee_37 : decode cX7_ifKnee 37 = .ok (.getfield 26, 3) := by decide +kernel
theorem dX7_ifKnee_40 : decode cX7_ifKnee 40 = .ok (.invokevirtual 297, 3) := by decide +kernel
theorem dX7_ifKnee_43 : decode cX7_ifKnee 43 = .ok (.aload_n 0, 1) := by decide +kernel
theorem dX7_ifKnee_44 : decode cX7_ifKnee 44 = .ok (.getfield 33, 3) := by decide +kernel
theorem dX7_ifKnee_47 : decode cX7_ifKnee 47 = .ok (.iload_n 2, 1) := by decide +kernel
theorem dX7_ifKnee_48 : decode cX7_ifKnee 48 = .ok (.invokevirtual 301, 3) := by decide +kernel
theorem dX7_ifKnee_51 : decode cX7_ifKnee 51 = .ok (.ireturn, 1) := by decide +kernel
theorem dX7_ifParts_0 : decode cX7_ifParts 0 = .ok (.iload_n 1, 1) := by decide +kernel
theorem dX7_ifParts_1 : decode cX7_ifParts 1 = .ok (.iconst 1, 1) := by decide +kernel
theorem dX7_ifParts_2 : decode cX7_ifParts 2 = .ok (.if_icmp .lt 9, 3) := by decide +kernel
theorem dX7_ifParts_5 : decode cX7_ifParts 5 = .ok (.iload_n 1, 1) := by decide +kernel
theorem dX7_ifParts_6 : decode cX7_ifParts 6 = .ok (.bipush 12, 2) := by decide +kernel
theorem dX7_ifParts_8 : decode cX7_ifParts 8 = .ok (.if_icmp .le 7, 3) := by decide +kernel
theorem dX7_ifParts_11 : decode cX7_ifParts 11 = .ok (.iconst (-1), 1) := by decide +kernel
theorem dX7_ifParts_12 : decode cX7_ifParts 12 = .ok (.goto 11, 3) := by decide +kernel
theorem dX7_ifParts_15 : decode cX7_ifParts 15 = .ok (.aload_n 0, 1) := by decide +kernel
theorem dX7_ifParts_16 : decode cX7_ifParts 16 = .ok (.getfield 51, 3) := by decide +kernel
theorem dX7_ifParts_19 : decode cX7_ifParts 19 = .ok (.iload_n 1, 1) := by decide +kernel
theorem dX7_ifParts_20 : decode cX7_ifParts 20 = .ok (.invokevirtual 323, 3) := by decide +kernel
theorem dX7_ifParts_23 : decode cX7_ifParts 23 = .ok (.ireturn, 1) := by decide +kernel
theorem dX7_alone_0 : decode cX7_alone 0 = .ok (.iload_n 1, 1) := by decide +kernel
theorem dX7_alone_1 : decode cX7_alone 1 = .ok (.ifCond .lt 8, 3) := by decide +kernel
theorem dX7_alone_4 : decode cX7_alone 4 = .ok (.iload_n 1, 1) := by decide +kernel
theorem dX7_alone_5 : decode cX7_alone 5 = .ok (.iconst 1, 1) := by decide +kernel
theorem dX7_alone_6 : decode cX7_alone 6 = .ok (.if_icmp .le 5, 3) := by decide +kernel
theorem dX7_alone_9 : decode cX7_alone 9 = .ok (.iconst (-1), 1) := by decide +kernel
theorem dX7_alone_10 : decode cX7_alone 10 = .ok (.ireturn, 1) := by decide +kernel
theorem dX7_alone_11 : decode cX7_alone 11 = .ok (.iconst 0, 1) := by decide +kernel
theorem dX7_alone_12 : decode cX7_alone 12 = .ok (.istore_n 2, 1) := by decide +kernel
theorem dX7_alone_13 : decode cX7_alone 13 = .ok (.bipush (-2), 2) := by decide +kernel
theorem dX7_alone_15 : decode cX7_alone 15 = .ok (.istore_n 3, 1) := by decide +kernel
theorem dX7_alone_16 : decode cX7_alone 16 = .ok (.iconst 0, 1) := by decide +kernel
theorem dX7_alone_17 : decode cX7_alone 17 = .ok (.istore 4, 2) := by decide +kernel
theorem dX7_alone_19 : decode cX7_alone 19 = .ok (.iload 4, 2) := by decide +kernel
theorem dX7_alone_21 : decode cX7_alone 21 = .ok (.aload_n 0, 1) := by decide +kernel
theorem dX7_alone_22 : decode cX7_alone 22 = .ok (.getfield 51, 3) := by decide +kernel
theorem dX7_alone_25 : decode cX7_alone 25 = .ok (.getfield 322, 3) := by decide +kernel
theorem dX7_alone_28 : decode cX7_alone 28 = .ok (.if_icmp .ge 45, 3) := by decide +kernel
theorem dX7_alone_31 : decode cX7_alone 31 = .ok (.aload_n 0, 1) := by decide +kernel
theorem dX7_alone_32 : decode cX7_alone 32 = .ok (.getfield 51, 3) := by decide +kernel
theorem dX7_alone_35 : decode cX7_alone 35 = .ok (.iload 4, 2) := by decide +kernel
theorem dX7_alone_37 : decode cX7_alone 37 = .ok (.invokevirtual 133, 3) := by decide +kernel
theorem dX7_alone_40 : decode cX7_alone 40 = .ok (.ifCond .le 27, 3) := by decide +kernel
theorem dX7_alone_43 : decode cX7_alone 43 = .ok (.aload_n 0, 1) := by decide +kernel
theorem dX7_alone_44 : decode cX7_alone 44 = .ok (.iload 4, 2) := by decide +kernel
theorem dX7_alone_46 : decode cX7_alone 46 = .ok (.invokevirtual 127, 3) := by decide +kernel
theorem dX7_alone_49 : decode cX7_alone 49 = .ok (.ifCond .ne 18, 3) := by decide +kernel
theorem dX7_alone_52 : decode cX7_alone 52 = .ok (.iinc 2 1, 3) := by decide +kernel
theorem dX7_alone_55 : decode cX7_alone 55 = .ok (.iload_n 2, 1) := by decide +kernel
theorem dX7_alone_56 : decode cX7_alone 56 = .ok (.iconst 1, 1) := by decide +kernel
theorem dX7_alone_57 : decode cX7_alone 57 = .ok (.if_icmp .ne 8, 3) := by decide +kernel
theorem dX7_alone_60 : decode cX7_alone 60 = .ok (.iload 4, 2) := by decide +kernel
theorem dX7_alone_62 : decode cX7_alone 62 = .ok (.goto 4, 3) := by decide +kernel
theorem dX7_alone_65 : decode cX7_alone 65 = .ok (.iload_n 3, 1) := by decide +kernel
theorem dX7_alone_66 : decode cX7_alone 66 = .ok (.istore_n 3, 1) := by decide +kernel
theorem dX7_alone_67 : decode cX7_alone 67 = .ok (.iinc 4 1, 3) := by decide +kernel
theorem dX7_alone_70 : decode cX7_alone 70 = .ok (.goto (-51), 3) := by decide +kernel
theorem dX7_alone_73 : decode cX7_alone 73 = .ok (.iload_n 1, 1) := by decide +kernel
theorem dX7_alone_74 : decode cX7_alone 74 = .ok (.ifCond .ne 7, 3) := by decide +kernel
theorem dX7_alone_77 : decode cX7_alone 77 = .ok (.iload_n 2, 1) := by decide +kernel
theorem dX7_alone_78 : decode cX7_alone 78 = .ok (.goto 4, 3) := by decide +kernel
theorem dX7_alone_81 : decode cX7_alone 81 = .ok (.iload_n 3, 1) := by decide +kernel
theorem dX7_alone_82 : decode cX7_alone 82 = .ok (.ireturn, 1) := by decide +kernel
theorem dX7_stretches_0 : decode cX7_stretches 0 = .ok (.aload_n 0, 1) := by decide +kernel
theorem dX7_stretches_1 : decode cX7_stretches 1 = .ok (.iload_n 1, 1) := by decide +kernel
theorem dX7_stretches_2 : decode cX7_stretches 2 = .ok (.invokevirtual 171, 3) := by decide +kernel
theorem dX7_stretches_5 : decode cX7_stretches 5 = .ok (.ifCond .eq 13, 3) := by decide +kernel
theorem dX7_stretches_8 : decode cX7_stretches 8 = .ok (.iload_n 2, 1) := by decide +kernel
theorem dX7_stretches_9 : decode cX7_stretches 9 = .ok (.iconst 1, 1) := by decide +kernel
theorem dX7_stretches_10 : decode cX7_stretches 10 = .ok (.if_icmp .lt 8, 3) := by decide +kernel
theorem dX7_stretches_13 : decode cX7_stretches 13 = .ok (.iload_n 2, 1) := by decide +kernel
theorem dX7_stretches_14 : decode cX7_stretches 14 = .ok (.iconst 3, 1) := by decide +kernel
theorem dX7_stretches_15 : decode cX7_stretches 15 = .ok (.if_icmp .le 5, 3) := by decide +kernel
theorem dX7_stretches_18 : decode cX7_stretches 18 = .ok (.iconst (-1), 1) := by decide +kernel
theorem dX7_stretches_19 : decode cX7_stretches 19 = .ok (.ireturn, 1) := by decide +kernel
theorem dX7_stretches_20 : decode cX7_stretches 20 = .ok (.iconst 0, 1) := by decide +kernel
theorem dX7_stretches_21 : decode cX7_stretches 21 = .ok (.istore_n 3, 1) := by decide +kernel
theorem dX7_stretches_22 : decode cX7_stretches 22 = .ok (.aload_n 0, 1) := by decide +kernel
theorem dX7_stretches_23 : decode cX7_stretches 23 = .ok (.getfield 51, 3) := by decide +kernel
theorem dX7_stretches_26 : decode cX7_stretches 26 = .ok (.getfield 179, 3) := by decide +kernel
theorem dX7_stretches_29 : decode cX7_stretches 29 = .ok (.iload_n 1, 1) := by decide +kernel
theorem dX7_stretches_30 : decode cX7_stretches 30 = .ok (.iaload, 1) := by decide +kernel
theorem dX7_stretches_31 : decode cX7_stretches 31 = .ok (.istore 4, 2) := by decide +kernel
theorem dX7_stretches_33 : decode cX7_stretches 33 = .ok (.iload 4, 2) := by decide +kernel
theorem dX7_stretches_35 : decode cX7_stretches 35 = .ok (.aload_n 0, 1) := by decide +kernel
theorem dX7_stretches_36 : decode cX7_stretches 36 = .ok (.getfield 51, 3) := by decide +kernel
theorem dX7_stretches_39 : decode cX7_stretches 39 = .ok (.iload_n 1, 1) := by decide +kernel
theorem dX7_stretches_40 : decode cX7_stretches 40 = .ok (.invokevirtual 326, 3) := by decide +kernel
theorem dX7_stretches_43 : decode cX7_stretches 43 = .ok (.if_icmp .gt 30, 3) := by decide +kernel
theorem dX7_stretches_46 : decode cX7_stretches 46 = .ok (.iload_n 3, 1) := by decide +kernel
theorem dX7_stretches_47 : decode cX7_stretches 47 = .ok (.aload_n 0, 1) := by decide +kernel
theorem dX7_stretches_48 : decode cX7_stretches 48 = .ok (.getfield 51, 3) := by decide +kernel
theorem dX7_stretches_51 : decode cX7_stretches 51 = .ok (.iload 4, 2) := by decide +kernel
theorem dX7_stretches_53 : decode cX7_stretches 53 = .ok (.iload_n 2, 1) := by decide +kernel
theorem dX7_stretches_54 : decode cX7_stretches 54 = .ok (.invokevirtual 329, 3) := by decide +kernel
theorem dX7_stretches_57 : decode cX7_stretches 57 = .ok (.ifCond .eq 7, 3) := by decide +kernel
theorem dX7_stretches_60 : decode cX7_stretches 60 = .ok (.iconst 1, 1) := by decide +kernel
theorem dX7_stretches_61 : decode cX7_stretches 61 = .ok (.goto 4, 3) := by decide +kernel
theorem dX7_stretches_64 : decode cX7_stretches 64 = .ok (.iconst 0, 1) := by decide +kernel
theorem dX7_stretches_65 : decode cX7_stretches 65 = .ok (.iadd, 1) := by decide +kernel
theorem dX7_stretches_66 : decode cX7_stretches 66 = .ok (.istore_n 3, 1) := by decide +kernel
theorem dX7_stretches_67 : decode cX7_stretches 67 = .ok (.iinc 4 1, 3) := by decide +kernel
theorem dX7_stretches_70 : decode cX7_stretches 70 = .ok (.goto (-37), 3) := by decide +kernel
theorem dX7_stretches_73 : decode cX7_stretches 73 = .ok (.iload_n 3, 1) := by decide +kernel
theorem dX7_stretches_74 : decode cX7_stretches 74 = .ok (.ireturn, 1) := by decide +kernel
theorem dX7_stretch_0 : decode cX7_stretch 0 = .ok (.aload_n 0, 1) := by decide +kernel
theorem dX7_stretch_1 : decode cX7_stretch 1 = .ok (.iload_n 1, 1) := by decide +kernel
theorem dX7_stretch_2 : decode cX7_stretch 2 = .ok (.invokevirtual 171, 3) := by decide +kernel
theorem dX7_stretch_5 : decode cX7_stretch 5 = .ok (.ifCond .eq 28, 3) := by decide +kernel
theorem dX7_stretch_8 : decode cX7_stretch 8 = .ok (.iload_n 2, 1) := by decide +kernel
theorem dX7_stretch_9 : decode cX7_stretch 9 = .ok (.iconst 1, 1) := by decide +kernel
theorem dX7_stretch_10 : decode cX7_stretch 10 = .ok (.if_icmp .lt 23, 3) := by decide +kernel
theorem dX7_stretch_13 : decode cX7_stretch 13 = .ok (.iload_n 2, 1) := by decide +kernel
theorem dX7_stretch_14 : decode cX7_stretch 14 = .ok (.iconst 3, 1) := by decide +kernel
theorem dX7_stretch_15 : decode cX7_stretch 15 = .ok (.if_icmp .gt 18, 3) := by decide +kernel
theorem dX7_stretch_18 : decode cX7_stretch 18 = .ok (.iload_n 3, 1) := by decide +kernel
theorem dX7_stretch_19 : decode cX7_stretch 19 = .ok (.ifCond .lt 14, 3) := by decide +kernel
theorem dX7_stretch_22 : decode cX7_stretch 22 = .ok (.iload 4, 2) := by decide +kernel
theorem dX7_stretch_24 : decode cX7_stretch 24 = .ok (.ifCond .lt 9, 3) := by decide +kernel
theorem dX7_stretch_27 : decode cX7_stretch 27 = .ok (.iload 4, 2) := by decide +kernel
theorem dX7_stretch_29 : decode cX7_stretch 29 = .ok (.iconst 2, 1) := by decide +kernel
theorem dX7_stretch_30 : decode cX7_stretch 30 = .ok (.if_icmp .le 5, 3) := by decide +kernel
theorem dX7_stretch_33 : decode cX7_stretch 33 = .ok (.iconst (-1), 1) := by decide +kernel
theorem dX7_stretch_34 : decode cX7_stretch 34 = .ok (.ireturn, 1) := by decide +kernel
theorem dX7_stretch_35 : decode cX7_stretch 35 = .ok (.iconst 0, 1) := by decide +kernel
theorem dX7_stretch_36 : decode cX7_stretch 36 = .ok (.istore 5, 2) := by decide +kernel
theorem dX7_stretch_38 : decode cX7_stretch 38 = .ok (.aload_n 0, 1) := by decide +kernel
theorem dX7_stretch_39 : decode cX7_stretch 39 = .ok (.getfield 51, 3) := by decide +kernel
theorem dX7_stretch_42 : decode cX7_stretch 42 = .ok (.getfield 179, 3) := by decide +kernel
theorem dX7_stretch_45 : decode cX7_stretch 45 = .ok (.iload_n 1, 1) := by decide +kernel
theorem dX7_stretch_46 : decode cX7_stretch 46 = .ok (.iaload, 1) := by decide +kernel
theorem dX7_stretch_47 : decode cX7_stretch 47 = .ok (.istore 6, 2) := by decide +kernel
theorem dX7_stretch_49 : decode cX7_stretch 49 = .ok (.iload 6, 2) := by decide +kernel
theorem dX7_stretch_51 : decode cX7_stretch 51 = .ok (.aload_n 0, 1) := by decide +kernel
theorem dX7_stretch_52 : decode cX7_stretch 52 = .ok (.getfield 51, 3) := by decide +kernel
theorem dX7_stretch_55 : decode cX7_stretch 55 = .ok (.iload_n 1, 1) := by decide +kernel
theorem dX7_stretch_56 : decode cX7_stretch 56 = .ok (.invokevirtual 326, 3) := by decide +kernel
theorem dX7_stretch_59 : decode cX7_stretch 59 = .ok (.if_icmp .gt 50, 3) := by decide +kernel
theorem dX7_stretch_62 : decode cX7_stretch 62 = .ok (.aload_n 0, 1) := by decide +kernel
theorem dX7_stretch_63 : decode cX7_stretch 63 = .ok (.getfield 51, 3) := by decide +kernel
theorem dX7_stretch_66 : decode cX7_stretch 66 = .ok (.iload 6, 2) := by decide +kernel
theorem dX7_stretch_68 : decode cX7_stretch 68 = .ok (.iload_n 2, 1) := by decide +kernel
theorem dX7_stretch_69 : decode cX7_stretch 69 = .ok (.invokevirtual 329, 3) := by decide +kernel
theorem dX7_stretch_72 : decode cX7_stretch 72 = .ok (.ifCond .eq 31, 3) := by decide +kernel
theorem dX7_stretch_75 : decode cX7_stretch 75 = .ok (.iload 5, 2) := by decide +kernel
theorem dX7_stretch_77 : decode cX7_stretch 77 = .ok (.iload_n 3, 1) := by decide +kernel
theorem dX7_stretch_78 : decode cX7_stretch 78 = .ok (.if_icmp .ne 22, 3) := by decide +kernel
theorem dX7_stretch_81 : decode cX7_stretch 81 = .ok (.aload_n 0, 1) := by decide +kernel
theorem dX7_stretch_82 : decode cX7_stretch 82 = .ok (.iload 6, 2) := by decide +kernel
theorem dX7_stretch_84 : decode cX7_stretch 84 = .ok (.aload_n 0, 1) := by decide +kernel
theorem dX7_stretch_85 : decode cX7_stretch 85 = .ok (.getfield 51, 3) := by decide +kernel
theorem dX7_stretch_88 : decode cX7_stretch 88 = .ok (.iload 6, 2) := by decide +kernel
theorem dX7_stretch_90 : decode cX7_stretch 90 = .ok (.iload_n 2, 1) := by decide +kernel
theorem dX7_stretch_91 : decode cX7_stretch 91 = .ok (.invokevirtual 332, 3) := by decide +kernel
theorem dX7_stretch_94 : decode cX7_stretch 94 = .ok (.iload 4, 2) := by decide +kernel
theorem dX7_stretch_96 : decode cX7_stretch 96 = .ok (.invokevirtual 335, 3) := by decide +kernel
theorem dX7_stretch_99 : decode cX7_stretch 99 = .ok (.ireturn, 1) := by decide +kernel
theorem dX7_stretch_100 : decode cX7_stretch 100 = .ok (.iinc 5 1, 3) := by decide +kernel
theorem dX7_stretch_103 : decode cX7_stretch 103 = .ok (.iinc 6 1, 3) := by decide +kernel
theorem dX7_stretch_106 : decode cX7_stretch 106 = .ok (.goto (-57), 3) := by decide +kernel
theorem dX7_stretch_109 : decode cX7_stretch 109 = .ok (.bipush (-2), 2) := by decide +kernel
theorem dX7_stretch_111 : decode cX7_stretch 111 = .ok (.ireturn, 1) := by decide +kernel
theorem dX7_level_0 : decode cX7_level 0 = .ok (.aload_n 0, 1) := by decide +kernel
theorem dX7_level_1 : decode cX7_level 1 = .ok (.iload_n 1, 1) := by decide +kernel
theorem dX7_level_2 : decode cX7_level 2 = .ok (.invokevirtual 171, 3) := by decide +kernel
theorem dX7_level_5 : decode cX7_level 5 = .ok (.ifCond .eq 12, 3) := by decide +kernel
theorem dX7_level_8 : decode cX7_level 8 = .ok (.iload_n 2, 1) := by decide +kernel
theorem dX7_level_9 : decode cX7_level 9 = .ok (.ifCond .lt 8, 3) := by decide +kernel
theorem dX7_level_12 : decode cX7_level 12 = .ok (.iload_n 2, 1) := by decide +kernel
theorem dX7_level_13 : decode cX7_level 13 = .ok (.iconst 2, 1) := by decide +kernel
theorem dX7_level_14 : decode cX7_level 14 = .ok (.if_icmp .le 6, 3) := by decide +kernel
theorem dX7_level_17 : decode cX7_level 17 = .ok (.ldc 147, 2) := by decide +kernel
theorem dX7_level_19 : decode cX7_level 19 = .ok (.ireturn, 1) := by decide +kernel
theorem dX7_level_20 : decode cX7_level 20 = .ok (.aload_n 0, 1) := by decide +kernel
theorem dX7_level_21 : decode cX7_level 21 = .ok (.iload_n 1, 1) := by decide +kernel
theorem dX7_level_22 : decode cX7_level 22 = .ok (.invokevirtual 176, 3) := by decide +kernel
theorem dX7_level_25 : decode cX7_level 25 = .ok (.aload_n 0, 1) := by decide +kernel
theorem dX7_level_26 : decode cX7_level 26 = .ok (.getfield 26, 3) := by decide +kernel
theorem dX7_level_29 : decode cX7_level 29 = .ok (.invokevirtual 338, 3) := by decide +kernel
theorem dX7_level_32 : decode cX7_level 32 = .ok (.lstore_n 3, 1) := by decide +kernel
theorem dX7_level_33 : decode cX7_level 33 = .ok (.lload_n 3, 1) := by decide +kernel
theorem dX7_level_34 : decode cX7_level 34 = .ok (.ldc2_w 242, 3) := by decide +kernel
theorem dX7_level_37 : decode cX7_level 37 = .ok (.lcmp, 1) := by decide +kernel
theorem dX7_level_38 : decode cX7_level 38 = .ok (.ifCond .ne 6, 3) := by decide +kernel
theorem dX7_level_41 : decode cX7_level 41 = .ok (.ldc 147, 2) := by decide +kernel
theorem dX7_level_43 : decode cX7_level 43 = .ok (.ireturn, 1) := by decide +kernel
theorem dX7_level_44 : decode cX7_level 44 = .ok (.iload_n 2, 1) := by decide +kernel
theorem dX7_level_45 : decode cX7_level 45 = .ok (.lookupswitch 41 #[(0, 27), (1, 36)], 27) := by decide +kernel
theorem dX7_level_72 : decode cX7_level 72 = .ok (.aload_n 0, 1) := by decide +kernel
theorem dX7_level_73 : decode cX7_level 73 = .ok (.getfield 26, 3) := by decide +kernel
theorem dX7_level_76 : decode cX7_level 76 = .ok (.lload_n 3, 1) := by decide +kernel
theorem dX7_level_77 : decode cX7_level 77 = .ok (.invokevirtual 264, 3) := by decide +kernel
theorem dX7_level_80 : decode cX7_level 80 = .ok (.ireturn, 1) := by decide +kernel
theorem dX7_level_81 : decode cX7_level 81 = .ok (.lload_n 3, 1) := by decide +kernel
theorem dX7_level_82 : decode cX7_level 82 = .ok (.invokestatic 313, 3) := by decide +kernel
theorem dX7_level_85 : decode cX7_level 85 = .ok (.ireturn, 1) := by decide +kernel
theorem dX7_level_86 : decode cX7_level 86 = .ok (.lload_n 3, 1) := by decide +kernel
theorem dX7_level_87 : decode cX7_level 87 = .ok (.invokestatic 313, 3) := by decide +kernel
theorem dX7_level_90 : decode cX7_level 90 = .ok (.aload_n 0, 1) := by decide +kernel
theorem dX7_level_91 : decode cX7_level 91 = .ok (.getfield 26, 3) := by decide +kernel
theorem dX7_level_94 : decode cX7_level 94 = .ok (.invokevirtual 238, 3) := by decide +kernel
theorem dX7_level_97 : decode cX7_level 97 = .ok (.invokestatic 313, 3) := by decide +kernel
theorem dX7_level_100 : decode cX7_level 100 = .ok (.isub, 1) := by decide +kernel
theorem dX7_level_101 : decode cX7_level 101 = .ok (.ireturn, 1) := by decide +kernel
theorem dX7_ifCut_0 : decode cX7_ifCut 0 = .ok (.aload_n 0, 1) := by decide +kernel
theorem dX7_ifCut_1 : decode cX7_ifCut 1 = .ok (.iload_n 1, 1) := by decide +kernel
theorem dX7_ifCut_2 : decode cX7_ifCut 2 = .ok (.invokevirtual 171, 3) := by decide +kernel
theorem dX7_ifCut_5 : decode cX7_ifCut 5 = .ok (.ifCond .eq 21, 3) := by decide +kernel
theorem dX7_ifCut_8 : decode cX7_ifCut 8 = .ok (.iload_n 2, 1) := by decide +kernel
theorem dX7_ifCut_9 : decode cX7_ifCut 9 = .ok (.iconst 1, 1) := by decide +kernel
theorem dX7_ifCut_10 : decode cX7_ifCut 10 = .ok (.if_icmp .lt 16, 3) := by decide +kernel
theorem dX7_ifCut_13 : decode cX7_ifCut 13 = .ok (.iload_n 2, 1) := by decide +kernel
theorem dX7_ifCut_14 : decode cX7_ifCut 14 = .ok (.aload_n 0, 1) := by decide +kernel
theorem dX7_ifCut_15 : decode cX7_ifCut 15 = .ok (.getfield 51, 3) := by decide +kernel
theorem dX7_ifCut_18 : decode cX7_ifCut 18 = .ok (.getfield 341, 3) := by decide +kernel
theorem dX7_ifCut_21 : decode cX7_ifCut 21 = .ok (.iload_n 1, 1) := by decide +kernel
theorem dX7_ifCut_22 : decode cX7_ifCut 22 = .ok (.iaload, 1) := by decide +kernel
theorem dX7_ifCut_23 : decode cX7_ifCut 23 = .ok (.if_icmp .lt 5, 3) := by decide +kernel
theorem dX7_ifCut_26 : decode cX7_ifCut 26 = .ok (.iconst (-1), 1) := by decide +kernel
theorem dX7_ifCut_27 : decode cX7_ifCut 27 = .ok (.ireturn, 1) := by decide +kernel
theorem dX7_ifCut_28 : decode cX7_ifCut 28 = .ok (.aload_n 0, 1) := by decide +kernel
theorem dX7_ifCut_29 : decode cX7_ifCut 29 = .ok (.iload_n 1, 1) := by decide +kernel
theorem dX7_ifCut_30 : decode cX7_ifCut 30 = .ok (.iload_n 2, 1) := by decide +kernel
theorem dX7_ifCut_31 : decode cX7_ifCut 31 = .ok (.invokevirtual 344, 3) := by decide +kernel
theorem dX7_ifCut_34 : decode cX7_ifCut 34 = .ok (.ireturn, 1) := by decide +kernel
theorem dX7_cut_0 : decode cX7_cut 0 = .ok (.aload_n 0, 1) := by decide +kernel
theorem dX7_cut_1 : decode cX7_cut 1 = .ok (.iload_n 1, 1) := by decide +kernel
theorem dX7_cut_2 : decode cX7_cut 2 = .ok (.invokevirtual 171, 3) := by decide +kernel
theorem dX7_cut_5 : decode cX7_cut 5 = .ok (.ifCond .ne 5, 3) := by decide +kernel
theorem dX7_cut_8 : decode cX7_cut 8 = .ok (.iconst (-1), 1) := by decide +kernel
theorem dX7_cut_9 : decode cX7_cut 9 = .ok (.ireturn, 1) := by decide +kernel
theorem dX7_cut_10 : decode cX7_cut 10 = .ok (.bipush (-2), 2) := by decide +kernel
theorem dX7_cut_12 : decode cX7_cut 12 = .ok (.istore_n 2, 1) := by decide +kernel
theorem dX7_cut_13 : decode cX7_cut 13 = .ok (.ldc_w 309, 3) := by decide +kernel
theorem dX7_cut_16 : decode cX7_cut 16 = .ok (.istore_n 3, 1) := by decide +kernel
theorem dX7_cut_17 : decode cX7_cut 17 = .ok (.iconst 1, 1) := by decide +kernel
theorem dX7_cut_18 : decode cX7_cut 18 = .ok (.istore 4, 2) := by decide +kernel
theorem dX7_cut_20 : decode cX7_cut 20 = .ok (.iload 4, 2) := by decide +kernel
theorem dX7_cut_22 : decode cX7_cut 22 = .ok (.aload_n 0, 1) := by decide +kernel
theorem dX7_cut_23 : decode cX7_cut 23 = .ok (.getfield 51, 3) := by decide +kernel
theorem dX7_cut_26 : decode cX7_cut 26 = .ok (.getfield 341, 3) := by decide +kernel
theorem dX7_cut_29 : decode cX7_cut 29 = .ok (.iload_n 1, 1) := by decide +kernel
theorem dX7_cut_30 : decode cX7_cut 30 = .ok (.iaload, 1) := by decide +kernel
theorem dX7_cut_31 : decode cX7_cut 31 = .ok (.if_icmp .ge 37, 3) := by decide +kernel
theorem dX7_cut_34 : decode cX7_cut 34 = .ok (.aload_n 0, 1) := by decide +kernel
theorem dX7_cut_35 : decode cX7_cut 35 = .ok (.iload_n 1, 1) := by decide +kernel
theorem dX7_cut_36 : decode cX7_cut 36 = .ok (.iload 4, 2) := by decide +kernel
theorem dX7_cut_38 : decode cX7_cut 38 = .ok (.invokevirtual 344, 3) := by decide +kernel
theorem dX7_cut_41 : decode cX7_cut 41 = .ok (.istore 5, 2) := by decide +kernel
theorem dX7_cut_43 : decode cX7_cut 43 = .ok (.iload 5, 2) := by decide +kernel
theorem dX7_cut_45 : decode cX7_cut 45 = .ok (.bipush (-2), 2) := by decide +kernel
theorem dX7_cut_47 : decode cX7_cut 47 = .ok (.if_icmp .eq 15, 3) := by decide +kernel
theorem dX7_cut_50 : decode cX7_cut 50 = .ok (.iload 5, 2) := by decide +kernel
theorem dX7_cut_52 : decode cX7_cut 52 = .ok (.iload_n 3, 1) := by decide +kernel
theorem dX7_cut_53 : decode cX7_cut 53 = .ok (.if_icmp .ge 9, 3) := by decide +kernel
theorem dX7_cut_56 : decode cX7_cut 56 = .ok (.iload 5, 2) := by decide +kernel
theorem dX7_cut_58 : decode cX7_cut 58 = .ok (.istore_n 3, 1) := by decide +kernel
theorem dX7_cut_59 : decode cX7_cut 59 = .ok (.iload 4, 2) := by decide +kernel
theorem dX7_cut_61 : decode cX7_cut 61 = .ok (.istore_n 2, 1) := by decide +kernel
theorem dX7_cut_62 : decode cX7_cut 62 = .ok (.iinc 4 1, 3) := by decide +kernel
theorem dX7_cut_65 : decode cX7_cut 65 = .ok (.goto (-45), 3) := by decide +kernel
theorem dX7_cut_68 : decode cX7_cut 68 = .ok (.iload_n 2, 1) := by decide +kernel
theorem dX7_cut_69 : decode cX7_cut 69 = .ok (.ireturn, 1) := by decide +kernel
theorem dX7_smooth_0 : decode cX7_smooth 0 = .ok (.iload_n 1, 1) := by decide +kernel
theorem dX7_smooth_1 : decode cX7_smooth 1 = .ok (.ifCond .lt 18, 3) := by decide +kernel
theorem dX7_smooth_4 : decode cX7_smooth 4 = .ok (.iload_n 1, 1) := by decide +kernel
theorem dX7_smooth_5 : decode cX7_smooth 5 = .ok (.bipush 120, 2) := by decide +kernel
theorem dX7_smooth_7 : decode cX7_smooth 7 = .ok (.if_icmp .gt 12, 3) := by decide +kernel
theorem dX7_smooth_10 : decode cX7_smooth 10 = .ok (.iload_n 2, 1) := by decide +kernel
theorem dX7_smooth_11 : decode cX7_smooth 11 = .ok (.ifCond .lt 8, 3) := by decide +kernel
theorem dX7_smooth_14 : decode cX7_smooth 14 = .ok (.iload_n 2, 1) := by decide +kernel
theorem dX7_smooth_15 : decode cX7_smooth 15 = .ok (.iconst 1, 1) := by decide +kernel
theorem dX7_smooth_16 : decode cX7_smooth 16 = .ok (.if_icmp .le 5, 3) := by decide +kernel
theorem dX7_smooth_19 : decode cX7_smooth 19 = .ok (.iconst (-1), 1) := by decide +kernel
theorem dX7_smooth_20 : decode cX7_smooth 20 = .ok (.ireturn, 1) := by decide +kernel
theorem dX7_smooth_21 : decode cX7_smooth 21 = .ok (.aload_n 0, 1) := by decide +kernel
theorem dX7_smooth_22 : decode cX7_smooth 22 = .ok (.getfield 40, 3) := by decide +kernel
theorem dX7_smooth_25 : decode cX7_smooth 25 = .ok (.aload_n 0, 1) := by decide +kernel
theorem dX7_smooth_26 : decode cX7_smooth 26 = .ok (.getfield 51, 3) := by decide +kernel
theorem dX7_smooth_29 : decode cX7_smooth 29 = .ok (.aload_n 0, 1) := by decide +kernel
theorem dX7_smooth_30 : decode cX7_smooth 30 = .ok (.getfield 26, 3) := by decide +kernel
theorem dX7_smooth_33 : decode cX7_smooth 33 = .ok (.iload_n 1, 1) := by decide +kernel
theorem dX7_smooth_34 : decode cX7_smooth 34 = .ok (.invokevirtual 347, 3) := by decide +kernel
theorem dX7_smooth_37 : decode cX7_smooth 37 = .ok (.ifCond .ne 6, 3) := by decide +kernel
theorem dX7_smooth_40 : decode cX7_smooth 40 = .ok (.bipush (-2), 2) := by decide +kernel
theorem dX7_smooth_42 : decode cX7_smooth 42 = .ok (.ireturn, 1) := by decide +kernel
theorem dX7_smooth_43 : decode cX7_smooth 43 = .ok (.iload_n 2, 1) := by decide +kernel
theorem dX7_smooth_44 : decode cX7_smooth 44 = .ok (.ifCond .ne 11, 3) := by decide +kernel
theorem dX7_smooth_47 : decode cX7_smooth 47 = .ok (.aload_n 0, 1) := by decide +kernel
theorem dX7_smooth_48 : decode cX7_smooth 48 = .ok (.getfield 40, 3) := by decide +kernel
theorem dX7_smooth_51 : decode cX7_smooth 51 = .ok (.getfield 351, 3) := by decide +kernel
theorem dX7_smooth_54 : decode cX7_smooth 54 = .ok (.ireturn, 1) := by decide +kernel
theorem dX7_smooth_55 : decode cX7_smooth 55 = .ok (.aload_n 0, 1) := by decide +kernel
theorem dX7_smooth_56 : decode cX7_smooth 56 = .ok (.getfield 33, 3) := by decide +kernel
theorem dX7_smooth_59 : decode cX7_smooth 59 = .ok (.aload_n 0, 1) := by decide +kernel
theorem dX7_smooth_60 : decode cX7_smooth 60 = .ok (.getfield 51, 3) := by decide +kernel
theorem dX7_smooth_63 : decode cX7_smooth 63 = .ok (.aload_n 0, 1) := by decide +kernel
theorem dX7_smooth_64 : decode cX7_smooth 64 = .ok (.getfield 51, 3) := by decide +kernel
theorem dX7_smooth_67 : decode cX7_smooth 67 = .ok (.getfield 144, 3) := by decide +kernel
theorem dX7_smooth_70 : decode cX7_smooth 70 = .ok (.aload_n 0, 1) := by decide +kernel
theorem dX7_smooth_71 : decode cX7_smooth 71 = .ok (.getfield 51, 3) := by decide +kernel
theorem dX7_smooth_74 : decode cX7_smooth 74 = .ok (.getfield 294, 3) := by decide +kernel
theorem dX7_smooth_77 : decode cX7_smooth 77 = .ok (.aload_n 0, 1) := by decide +kernel
theorem dX7_smooth_78 : decode cX7_smooth 78 = .ok (.getfield 26, 3) := by decide +kernel
theorem dX7_smooth_81 : decode cX7_smooth 81 = .ok (.invokevirtual 297, 3) := by decide +kernel
theorem dX7_smooth_84 : decode cX7_smooth 84 = .ok (.aload_n 0, 1) := by decide +kernel
theorem dX7_smooth_85 : decode cX7_smooth 85 = .ok (.getfield 40, 3) := by decide +kernel
theorem dX7_smooth_88 : decode cX7_smooth 88 = .ok (.getfield 351, 3) := by decide +kernel
theorem dX7_smooth_91 : decode cX7_smooth 91 = .ok (.aload_n 0, 1) := by decide +kernel
theorem dX7_smooth_92 : decode cX7_smooth 92 = .ok (.getfield 33, 3) := by decide +kernel
theorem dX7_smooth_95 : decode cX7_smooth 95 = .ok (.getfield 354, 3) := by decide +kernel
theorem dX7_smooth_98 : decode cX7_smooth 98 = .ok (.isub, 1) := by decide +kernel
theorem dX7_smooth_99 : decode cX7_smooth 99 = .ok (.ireturn, 1) := by decide +kernel
theorem dX7_smoothed_0 : decode cX7_smoothed 0 = .ok (.iload_n 1, 1) := by decide +kernel
theorem dX7_smoothed_1 : decode cX7_smoothed 1 = .ok (.ifCond .lt 26, 3) := by decide +kernel
theorem dX7_smoothed_4 : decode cX7_smoothed 4 = .ok (.iload_n 1, 1) := by decide +kernel
theorem dX7_smoothed_5 : decode cX7_smoothed 5 = .ok (.bipush 120, 2) := by decide +kernel
theorem dX7_smoothed_7 : decode cX7_smoothed 7 = .ok (.if_icmp .gt 20, 3) := by decide +kernel
theorem dX7_smoothed_10 : decode cX7_smoothed 10 = .ok (.aload_n 0, 1) := by decide +kernel
theorem dX7_smoothed_11 : decode cX7_smoothed 11 = .ok (.iload_n 2, 1) := by decide +kernel
theorem dX7_smoothed_12 : decode cX7_smoothed 12 = .ok (.invokevirtual 171, 3) := by decide +kernel
theorem dX7_smoothed_15 : decode cX7_smoothed 15 = .ok (.ifCond .eq 12, 3) := by decide +kernel
theorem dX7_smoothed_18 : decode cX7_smoothed 18 = .ok (.iload_n 3, 1) := by decide +kernel
theorem dX7_smoothed_19 : decode cX7_smoothed 19 = .ok (.ifCond .lt 8, 3) := by decide +kernel
theorem dX7_smoothed_22 : decode cX7_smoothed 22 = .ok (.iload_n 3, 1) := by decide +kernel
theorem dX7_smoothed_23 : decode cX7_smoothed 23 = .ok (.iconst 3, 1) := by decide +kernel
theorem dX7_smoothed_24 : decode cX7_smoothed 24 = .ok (.if_icmp .le 6, 3) := by decide +kernel
theorem dX7_smoothed_27 : decode cX7_smoothed 27 = .ok (.ldc 147, 2) := by decide +kernel
theorem dX7_smoothed_29 : decode cX7_smoothed 29 = .ok (.ireturn, 1) := by decide +kernel
theorem dX7_smoothed_30 : decode cX7_smoothed 30 = .ok (.aload_n 0, 1) := by decide +kernel
theorem dX7_smoothed_31 : decode cX7_smoothed 31 = .ok (.getfield 40, 3) := by decide +kernel
theorem dX7_smoothed_34 : decode cX7_smoothed 34 = .ok (.aload_n 0, 1) := by decide +kernel
theorem dX7_smoothed_35 : decode cX7_smoothed 35 = .ok (.getfield 51, 3) := by decide +kernel
theorem dX7_smoothed_38 : decode cX7_smoothed 38 = .ok (.aload_n 0, 1) := by decide +kernel
theorem dX7_smoothed_39 : decode cX7_smoothed 39 = .ok (.getfield 26, 3) := by decide +kernel
theorem dX7_smoothed_42 : decode cX7_smoothed 42 = .ok (.iload_n 1, 1) := by decide +kernel
theorem dX7_smoothed_43 : decode cX7_smoothed 43 = .ok (.invokevirtual 347, 3) := by decide +kernel
theorem dX7_smoothed_46 : decode cX7_smoothed 46 = .ok (.ifCond .ne 6, 3) := by decide +kernel
theorem dX7_smoothed_49 : decode cX7_smoothed 49 = .ok (.ldc 147, 2) := by decide +kernel
theorem dX7_smoothed_51 : decode cX7_smoothed 51 = .ok (.ireturn, 1) := by decide +kernel
theorem dX7_smoothed_52 : decode cX7_smoothed 52 = .ok (.aload_n 0, 1) := by decide +kernel
theorem dX7_smoothed_53 : decode cX7_smoothed 53 = .ok (.getfield 40, 3) := by decide +kernel
theorem dX7_smoothed_56 : decode cX7_smoothed 56 = .ok (.aload_n 0, 1) := by decide +kernel
theorem dX7_smoothed_57 : decode cX7_smoothed 57 = .ok (.getfield 51, 3) := by decide +kernel
theorem dX7_smoothed_60 : decode cX7_smoothed 60 = .ok (.aload_n 0, 1) := by decide +kernel
theorem dX7_smoothed_61 : decode cX7_smoothed 61 = .ok (.getfield 26, 3) := by decide +kernel
theorem dX7_smoothed_64 : decode cX7_smoothed 64 = .ok (.iload_n 1, 1) := by decide +kernel
theorem dX7_smoothed_65 : decode cX7_smoothed 65 = .ok (.iload_n 2, 1) := by decide +kernel
theorem dX7_smoothed_66 : decode cX7_smoothed 66 = .ok (.invokevirtual 357, 3) := by decide +kernel
theorem dX7_smoothed_69 : decode cX7_smoothed 69 = .ok (.lstore 4, 2) := by decide +kernel
theorem dX7_smoothed_71 : decode cX7_smoothed 71 = .ok (.lload 4, 2) := by decide +kernel
theorem dX7_smoothed_73 : decode cX7_smoothed 73 = .ok (.ldc2_w 242, 3) := by decide +kernel
theorem dX7_smoothed_76 : decode cX7_smoothed 76 = .ok (.lcmp, 1) := by decide +kernel
theorem dX7_smoothed_77 : decode cX7_smoothed 77 = .ok (.ifCond .ne 6, 3) := by decide +kernel
theorem dX7_smoothed_80 : decode cX7_smoothed 80 = .ok (.ldc 147, 2) := by decide +kernel
theorem dX7_smoothed_82 : decode cX7_smoothed 82 = .ok (.ireturn, 1) := by decide +kernel
theorem dX7_smoothed_83 : decode cX7_smoothed 83 = .ok (.iload_n 3, 1) := by decide +kernel
theorem dX7_smoothed_84 : decode cX7_smoothed 84 = .ok (.iconst 3, 1) := by decide +kernel
theorem dX7_smoothed_85 : decode cX7_smoothed 85 = .ok (.if_icmp .ne 15, 3) := by decide +kernel
theorem dX7_smoothed_88 : decode cX7_smoothed 88 = .ok (.aload_n 0, 1) := by decide +kernel
theorem dX7_smoothed_89 : decode cX7_smoothed 89 = .ok (.getfield 26, 3) := by decide +kernel
theorem dX7_smoothed_92 : decode cX7_smoothed 92 = .ok (.lload 4, 2) := by decide +kernel
theorem dX7_smoothed_94 : decode cX7_smoothed 94 = .ok (.invokevirtual 234, 3) := by decide +kernel
theorem dX7_smoothed_97 : decode cX7_smoothed 97 = .ok (.goto 13, 3) := by decide +kernel
theorem dX7_smoothed_100 : decode cX7_smoothed 100 = .ok (.aload_n 0, 1) := by decide +kernel
theorem dX7_smoothed_101 : decode cX7_smoothed 101 = .ok (.getfield 26, 3) := by decide +kernel
theorem dX7_smoothed_104 : decode cX7_smoothed 104 = .ok (.lload 4, 2) := by decide +kernel
theorem dX7_smoothed_106 : decode cX7_smoothed 106 = .ok (.iload_n 3, 1) := by decide +kernel
theorem dX7_smoothed_107 : decode cX7_smoothed 107 = .ok (.invokevirtual 226, 3) := by decide +kernel
theorem dX7_smoothed_110 : decode cX7_smoothed 110 = .ok (.ireturn, 1) := by decide +kernel
theorem dX7_single_0 : decode cX7_single 0 = .ok (.aload_n 0, 1) := by decide +kernel
theorem dX7_single_1 : decode cX7_single 1 = .ok (.iload_n 1, 1) := by decide +kernel
theorem dX7_single_2 : decode cX7_single 2 = .ok (.invokevirtual 141, 3) := by decide +kernel
theorem dX7_single_5 : decode cX7_single 5 = .ok (.ifCond .eq 20, 3) := by decide +kernel
theorem dX7_single_8 : decode cX7_single 8 = .ok (.aload_n 0, 1) := by decide +kernel
theorem dX7_single_9 : decode cX7_single 9 = .ok (.iload_n 1, 1) := by decide +kernel
theorem dX7_single_10 : decode cX7_single 10 = .ok (.invokevirtual 127, 3) := by decide +kernel
theorem dX7_single_13 : decode cX7_single 13 = .ok (.ifCond .ne 12, 3) := by decide +kernel
theorem dX7_single_16 : decode cX7_single 16 = .ok (.iload_n 2, 1) := by decide +kernel
theorem dX7_single_17 : decode cX7_single 17 = .ok (.ifCond .lt 8, 3) := by decide +kernel
theorem dX7_single_20 : decode cX7_single 20 = .ok (.iload_n 2, 1) := by decide +kernel
theorem dX7_single_21 : decode cX7_single 21 = .ok (.iconst 2, 1) := by decide +kernel
theorem dX7_single_22 : decode cX7_single 22 = .ok (.if_icmp .le 6, 3) := by decide +kernel
theorem dX7_single_25 : decode cX7_single 25 = .ok (.ldc 147, 2) := by decide +kernel
theorem dX7_single_27 : decode cX7_single 27 = .ok (.ireturn, 1) := by decide +kernel
theorem dX7_single_28 : decode cX7_single 28 = .ok (.aload_n 0, 1) := by decide +kernel
theorem dX7_single_29 : decode cX7_single 29 = .ok (.getfield 51, 3) := by decide +kernel
theorem dX7_single_32 : decode cX7_single 32 = .ok (.getfield 144, 3) := by decide +kernel
theorem dX7_single_35 : decode cX7_single 35 = .ok (.iload_n 1, 1) := by decide +kernel
theorem dX7_single_36 : decode cX7_single 36 = .ok (.iaload, 1) := by decide +kernel
theorem dX7_single_37 : decode cX7_single 37 = .ok (.istore_n 3, 1) := by decide +kernel
theorem dX7_single_38 : decode cX7_single 38 = .ok (.iload_n 3, 1) := by decide +kernel
theorem dX7_single_39 : decode cX7_single 39 = .ok (.ifCond .lt 7, 3) := by decide +kernel
theorem dX7_single_42 : decode cX7_single 42 = .ok (.iconst (-1), 1) := by decide +kernel
theorem dX7_single_43 : decode cX7_single 43 = .ok (.goto 4, 3) := by decide +kernel
theorem dX7_single_46 : decode cX7_single 46 = .ok (.iconst 1, 1) := by decide +kernel
theorem dX7_single_47 : decode cX7_single 47 = .ok (.istore 4, 2) := by decide +kernel
theorem dX7_single_49 : decode cX7_single 49 = .ok (.aload_n 0, 1) := by decide +kernel
theorem dX7_single_50 : decode cX7_single 50 = .ok (.getfield 51, 3) := by decide +kernel
theorem dX7_single_53 : decode cX7_single 53 = .ok (.iload_n 1, 1) := by decide +kernel
theorem dX7_single_54 : decode cX7_single 54 = .ok (.invokevirtual 133, 3) := by decide +kernel
theorem dX7_single_57 : decode cX7_single 57 = .ok (.iload 4, 2) := by decide +kernel
theorem dX7_single_59 : decode cX7_single 59 = .ok (.iload_n 3, 1) := by decide +kernel
theorem dX7_single_60 : decode cX7_single 60 = .ok (.invokestatic 361, 3) := by decide +kernel
theorem dX7_single_63 : decode cX7_single 63 = .ok (.istore 5, 2) := by decide +kernel
theorem dX7_single_65 : decode cX7_single 65 = .ok (.iload_n 2, 1) := by decide +kernel
theorem dX7_single_66 : decode cX7_single 66 = .ok (.lookupswitch 32 #[(0, 26), (1, 29)], 26) := by decide +kernel
theorem dX7_single_92 : decode cX7_single 92 = .ok (.iload 4, 2) := by decide +kernel
theorem dX7_single_94 : decode cX7_single 94 = .ok (.ireturn, 1) := by decide +kernel
theorem dX7_single_95 : decode cX7_single 95 = .ok (.iload 5, 2) := by decide +kernel
theorem dX7_single_97 : decode cX7_single 97 = .ok (.ireturn, 1) := by decide +kernel
theorem dX7_single_98 : decode cX7_single 98 = .ok (.iconst 2, 1) := by decide +kernel
theorem dX7_single_99 : decode cX7_single 99 = .ok (.iload_n 3, 1) := by decide +kernel
theorem dX7_single_100 : decode cX7_single 100 = .ok (.imul, 1) := by decide +kernel
theorem dX7_single_101 : decode cX7_single 101 = .ok (.iload 4, 2) := by decide +kernel
theorem dX7_single_103 : decode cX7_single 103 = .ok (.iload 5, 2) := by decide +kernel
theorem dX7_single_105 : decode cX7_single 105 = .ok (.imul, 1) := by decide +kernel
theorem dX7_single_106 : decode cX7_single 106 = .ok (.iadd, 1) := by decide +kernel
theorem dX7_single_107 : decode cX7_single 107 = .ok (.ireturn, 1) := by decide +kernel
theorem dX7_extreme_0 : decode cX7_extreme 0 = .ok (.aload_n 0, 1) := by decide +kernel
theorem dX7_extreme_1 : decode cX7_extreme 1 = .ok (.iload_n 1, 1) := by decide +kernel
theorem dX7_extreme_2 : decode cX7_extreme 2 = .ok (.invokevirtual 171, 3) := by decide +kernel
theorem dX7_extreme_5 : decode cX7_extreme 5 = .ok (.ifCond .eq 12, 3) := by decide +kernel
theorem dX7_extreme_8 : decode cX7_extreme 8 = .ok (.iload_n 2, 1) := by decide +kernel
theorem dX7_extreme_9 : decode cX7_extreme 9 = .ok (.ifCond .lt 8, 3) := by decide +kernel
theorem dX7_extreme_12 : decode cX7_extreme 12 = .ok (.iload_n 2, 1) := by decide +kernel
theorem dX7_extreme_13 : decode cX7_extreme 13 = .ok (.iconst 1, 1) := by decide +kernel
theorem dX7_extreme_14 : decode cX7_extreme 14 = .ok (.if_icmp .le 5, 3) := by decide +kernel
theorem dX7_extreme_17 : decode cX7_extreme 17 = .ok (.iconst (-1), 1) := by decide +kernel
theorem dX7_extreme_18 : decode cX7_extreme 18 = .ok (.ireturn, 1) := by decide +kernel
theorem dX7_extreme_19 : decode cX7_extreme 19 = .ok (.aload_n 0, 1) := by decide +kernel
theorem dX7_extreme_20 : decode cX7_extreme 20 = .ok (.iload_n 1, 1) := by decide +kernel
theorem dX7_extreme_21 : decode cX7_extreme 21 = .ok (.invokevirtual 176, 3) := by decide +kernel
theorem dX7_extreme_24 : decode cX7_extreme 24 = .ok (.aload_n 0, 1) := by decide +kernel
theorem dX7_extreme_25 : decode cX7_extreme 25 = .ok (.getfield 26, 3) := by decide +kernel
theorem dX7_extreme_28 : decode cX7_extreme 28 = .ok (.invokevirtual 238, 3) := by decide +kernel
theorem dX7_extreme_31 : decode cX7_extreme 31 = .ok (.lstore_n 3, 1) := by decide +kernel
theorem dX7_extreme_32 : decode cX7_extreme 32 = .ok (.lload_n 3, 1) := by decide +kernel
theorem dX7_extreme_33 : decode cX7_extreme 33 = .ok (.ldc2_w 242, 3) := by decide +kernel
theorem dX7_extreme_36 : decode cX7_extreme 36 = .ok (.lcmp, 1) := by decide +kernel
theorem dX7_extreme_37 : decode cX7_extreme 37 = .ok (.ifCond .ne 6, 3) := by decide +kernel
theorem dX7_extreme_40 : decode cX7_extreme 40 = .ok (.bipush (-2), 2) := by decide +kernel
theorem dX7_extreme_42 : decode cX7_extreme 42 = .ok (.ireturn, 1) := by decide +kernel
theorem dX7_extreme_43 : decode cX7_extreme 43 = .ok (.iconst 0, 1) := by decide +kernel
theorem dX7_extreme_44 : decode cX7_extreme 44 = .ok (.istore 5, 2) := by decide +kernel
theorem dX7_extreme_46 : decode cX7_extreme 46 = .ok (.iconst 1, 1) := by decide +kernel
theorem dX7_extreme_47 : decode cX7_extreme 47 = .ok (.istore 6, 2) := by decide +kernel
theorem dX7_extreme_49 : decode cX7_extreme 49 = .ok (.iload 6, 2) := by decide +kernel
theorem dX7_extreme_51 : decode cX7_extreme 51 = .ok (.aload_n 0, 1) := by decide +kernel
theorem dX7_extreme_52 : decode cX7_extreme 52 = .ok (.getfield 26, 3) := by decide +kernel
theorem dX7_extreme_55 : decode cX7_extreme 55 = .ok (.getfield 182, 3) := by decide +kernel
theorem dX7_extreme_58 : decode cX7_extreme 58 = .ok (.if_icmp .ge 53, 3) := by decide +kernel
theorem dX7_extreme_61 : decode cX7_extreme 61 = .ok (.aload_n 0, 1) := by decide +kernel
theorem dX7_extreme_62 : decode cX7_extreme 62 = .ok (.getfield 26, 3) := by decide +kernel
theorem dX7_extreme_65 : decode cX7_extreme 65 = .ok (.lload_n 3, 1) := by decide +kernel
theorem dX7_extreme_66 : decode cX7_extreme 66 = .ok (.iload 6, 2) := by decide +kernel
theorem dX7_extreme_68 : decode cX7_extreme 68 = .ok (.invokevirtual 244, 3) := by decide +kernel
theorem dX7_extreme_71 : decode cX7_extreme 71 = .ok (.aload_n 0, 1) := by decide +kernel
theorem dX7_extreme_72 : decode cX7_extreme 72 = .ok (.getfield 26, 3) := by decide +kernel
theorem dX7_extreme_75 : decode cX7_extreme 75 = .ok (.lload_n 3, 1) := by decide +kernel
theorem dX7_extreme_76 : decode cX7_extreme 76 = .ok (.iload 5, 2) := by decide +kernel
theorem dX7_extreme_78 : decode cX7_extreme 78 = .ok (.invokevirtual 244, 3) := by decide +kernel
theorem dX7_extreme_81 : decode cX7_extreme 81 = .ok (.isub, 1) := by decide +kernel
theorem dX7_extreme_82 : decode cX7_extreme 82 = .ok (.istore 7, 2) := by decide +kernel
theorem dX7_extreme_84 : decode cX7_extreme 84 = .ok (.iload_n 2, 1) := by decide +kernel
theorem dX7_extreme_85 : decode cX7_extreme 85 = .ok (.ifCond .ne 11, 3) := by decide +kernel
theorem dX7_extreme_88 : decode cX7_extreme 88 = .ok (.iload 7, 2) := by decide +kernel
theorem dX7_extreme_90 : decode cX7_extreme 90 = .ok (.ifCond .ge 15, 3) := by decide +kernel
theorem dX7_extreme_93 : decode cX7_extreme 93 = .ok (.goto 8, 3) := by decide +kernel
theorem dX7_extreme_96 : decode cX7_extreme 96 = .ok (.iload 7, 2) := by decide +kernel
theorem dX7_extreme_98 : decode cX7_extreme 98 = .ok (.ifCond .le 7, 3) := by decide +kernel
theorem dX7_extreme_101 : decode cX7_extreme 101 = .ok (.iload 6, 2) := by decide +kernel
theorem dX7_extreme_103 : decode cX7_extreme 103 = .ok (.istore 5, 2) := by decide +kernel
theorem dX7_extreme_105 : decode cX7_extreme 105 = .ok (.iinc 6 1, 3) := by decide +kernel
theorem dX7_extreme_108 : decode cX7_extreme 108 = .ok (.goto (-59), 3) := by decide +kernel
theorem dX7_extreme_111 : decode cX7_extreme 111 = .ok (.aload_n 0, 1) := by decide +kernel
theorem dX7_extreme_112 : decode cX7_extreme 112 = .ok (.getfield 51, 3) := by decide +kernel
theorem dX7_extreme_115 : decode cX7_extreme 115 = .ok (.getfield 179, 3) := by decide +kernel
theorem dX7_extreme_118 : decode cX7_extreme 118 = .ok (.iload_n 1, 1) := by decide +kernel
theorem dX7_extreme_119 : decode cX7_extreme 119 = .ok (.iaload, 1) := by decide +kernel
theorem dX7_extreme_120 : decode cX7_extreme 120 = .ok (.iload 5, 2) := by decide +kernel
theorem dX7_extreme_122 : decode cX7_extreme 122 = .ok (.iadd, 1) := by decide +kernel
theorem dX7_extreme_123 : decode cX7_extreme 123 = .ok (.ireturn, 1) := by decide +kernel
theorem dX7_count_0 : decode cX7_count 0 = .ok (.iload_n 1, 1) := by decide +kernel
theorem dX7_count_1 : decode cX7_count 1 = .ok (.tableswitch 203 0 14 #[75, 83, 91, 99, 107, 115, 123, 131, 139, 147, 155, 163, 173, 183, 193], 75) := by decide +kernel
theorem dX7_count_76 : decode cX7_count 76 = .ok (.aload_n 0, 1) := by decide +kernel
theorem dX7_count_77 : decode cX7_count 77 = .ok (.getfield 51, 3) := by decide +kernel
theorem dX7_count_80 : decode cX7_count 80 = .ok (.getfield 87, 3) := by decide +kernel
theorem dX7_count_83 : decode cX7_count 83 = .ok (.ireturn, 1) := by decide +kernel
theorem dX7_count_84 : decode cX7_count 84 = .ok (.aload_n 0, 1) := by decide +kernel
theorem dX7_count_85 : decode cX7_count 85 = .ok (.getfield 51, 3) := by decide +kernel
theorem dX7_count_88 : decode cX7_count 88 = .ok (.getfield 322, 3) := by decide +kernel
theorem dX7_count_91 : decode cX7_count 91 = .ok (.ireturn, 1) := by decide +kernel
theorem dX7_count_92 : decode cX7_count 92 = .ok (.aload_n 0, 1) := by decide +kernel
theorem dX7_count_93 : decode cX7_count 93 = .ok (.getfield 51, 3) := by decide +kernel
theorem dX7_count_96 : decode cX7_count 96 = .ok (.invokevirtual 364, 3) := by decide +kernel
theorem dX7_count_99 : decode cX7_count 99 = .ok (.ireturn, 1) := by decide +kernel
theorem dX7_count_100 : decode cX7_count 100 = .ok (.aload_n 0, 1) := by decide +kernel
theorem dX7_count_101 : decode cX7_count 101 = .ok (.getfield 51, 3) := by decide +kernel
theorem dX7_count_104 : decode cX7_count 104 = .ok (.getfield 316, 3) := by decide +kernel
theorem dX7_count_107 : decode cX7_count 107 = .ok (.ireturn, 1) := by decide +kernel
theorem dX7_count_108 : decode cX7_count 108 = .ok (.aload_n 0, 1) := by decide +kernel
theorem dX7_count_109 : decode cX7_count 109 = .ok (.getfield 51, 3) := by decide +kernel
theorem dX7_count_112 : decode cX7_count 112 = .ok (.invokevirtual 367, 3) := by decide +kernel
theorem dX7_count_115 : decode cX7_count 115 = .ok (.ireturn, 1) := by decide +kernel
theorem dX7_count_116 : decode cX7_count 116 = .ok (.aload_n 0, 1) := by decide +kernel
theorem dX7_count_117 : decode cX7_count 117 = .ok (.getfield 51, 3) := by decide +kernel
theorem dX7_count_120 : decode cX7_count 120 = .ok (.getfield 370, 3) := by decide +kernel
theorem dX7_count_123 : decode cX7_count 123 = .ok (.ireturn, 1) := by decide +kernel
theorem dX7_count_124 : decode cX7_count 124 = .ok (.aload_n 0, 1) := by decide +kernel
theorem dX7_count_125 : decode cX7_count 125 = .ok (.getfield 51, 3) := by decide +kernel
theorem dX7_count_128 : decode cX7_count 128 = .ok (.getfield 373, 3) := by decide +kernel
theorem dX7_count_131 : decode cX7_count 131 = .ok (.ireturn, 1) := by decide +kernel
theorem dX7_count_132 : decode cX7_count 132 = .ok (.aload_n 0, 1) := by decide +kernel
theorem dX7_count_133 : decode cX7_count 133 = .ok (.getfield 51, 3) := by decide +kernel
theorem dX7_count_136 : decode cX7_count 136 = .ok (.getfield 294, 3) := by decide +kernel
theorem dX7_count_139 : decode cX7_count 139 = .ok (.ireturn, 1) := by decide +kernel
theorem dX7_count_140 : decode cX7_count 140 = .ok (.aload_n 0, 1) := by decide +kernel
theorem dX7_count_141 : decode cX7_count 141 = .ok (.getfield 51, 3) := by decide +kernel
theorem dX7_count_144 : decode cX7_count 144 = .ok (.getfield 376, 3) := by decide +kernel
theorem dX7_count_147 : decode cX7_count 147 = .ok (.ireturn, 1) := by decide +kernel
theorem dX7_count_148 : decode cX7_count 148 = .ok (.aload_n 0, 1) := by decide +kernel
theorem dX7_count_149 : decode cX7_count 149 = .ok (.getfield 19, 3) := by decide +kernel
theorem dX7_count_152 : decode cX7_count 152 = .ok (.getfield 86, 3) := by decide +kernel
theorem dX7_count_155 : decode cX7_count 155 = .ok (.ireturn, 1) := by decide +kernel
theorem dX7_count_156 : decode cX7_count 156 = .ok (.aload_n 0, 1) := by decide +kernel
theorem dX7_count_157 : decode cX7_count 157 = .ok (.getfield 10, 3) := by decide +kernel
theorem dX7_count_160 : decode cX7_count 160 = .ok (.getfield 78, 3) := by decide +kernel
theorem dX7_count_163 : decode cX7_count 163 = .ok (.ireturn, 1) := by decide +kernel
theorem dX7_count_164 : decode cX7_count 164 = .ok (.aload_n 0, 1) := by decide +kernel
theorem dX7_count_165 : decode cX7_count 165 = .ok (.getfield 51, 3) := by decide +kernel
theorem dX7_count_168 : decode cX7_count 168 = .ok (.getfield 379, 3) := by decide +kernel
theorem dX7_count_171 : decode cX7_count 171 = .ok (.iconst 0, 1) := by decide +kernel
theorem dX7_count_172 : decode cX7_count 172 = .ok (.iaload, 1) := by decide +kernel
theorem dX7_count_173 : decode cX7_count 173 = .ok (.ireturn, 1) := by decide +kernel
theorem dX7_count_174 : decode cX7_count 174 = .ok (.aload_n 0, 1) := by decide +kernel
theorem dX7_count_175 : decode cX7_count 175 = .ok (.getfield 51, 3) := by decide +kernel
theorem dX7_count_178 : decode cX7_count 178 = .ok (.getfield 379, 3) := by decide +kernel
theorem dX7_count_181 : decode cX7_count 181 = .ok (.iconst 1, 1) := by decide +kernel
theorem dX7_count_182 : decode cX7_count 182 = .ok (.iaload, 1) := by decide +kernel
theorem dX7_count_183 : decode cX7_count 183 = .ok (.ireturn, 1) := by decide +kernel
theorem dX7_count_184 : decode cX7_count 184 = .ok (.aload_n 0, 1) := by decide +kernel
theorem dX7_count_185 : decode cX7_count 185 = .ok (.getfield 51, 3) := by decide +kernel
theorem dX7_count_188 : decode cX7_count 188 = .ok (.getfield 379, 3) := by decide +kernel
theorem dX7_count_191 : decode cX7_count 191 = .ok (.iconst 2, 1) := by decide +kernel
theorem dX7_count_192 : decode cX7_count 192 = .ok (.iaload, 1) := by decide +kernel
theorem dX7_count_193 : decode cX7_count 193 = .ok (.ireturn, 1) := by decide +kernel
theorem dX7_count_194 : decode cX7_count 194 = .ok (.aload_n 0, 1) := by decide +kernel
theorem dX7_count_195 : decode cX7_count 195 = .ok (.getfield 51, 3) := by decide +kernel
theorem dX7_count_198 : decode cX7_count 198 = .ok (.getfield 379, 3) := by decide +kernel
theorem dX7_count_201 : decode cX7_count 201 = .ok (.iconst 3, 1) := by decide +kernel
theorem dX7_count_202 : decode cX7_count 202 = .ok (.iaload, 1) := by decide +kernel
theorem dX7_count_203 : decode cX7_count 203 = .ok (.ireturn, 1) := by decide +kernel
theorem dX7_count_204 : decode cX7_count 204 = .ok (.iconst (-1), 1) := by decide +kernel
theorem dX7_count_205 : decode cX7_count 205 = .ok (.ireturn, 1) := by decide +kernel
theorem dX7_isElement_0 : decode cX7_isElement 0 = .ok (.iload_n 1, 1) := by decide +kernel
theorem dX7_isElement_1 : decode cX7_isElement 1 = .ok (.ifCond .lt 18, 3) := by decide +kernel
theorem dX7_isElement_4 : decode cX7_isElement 4 = .ok (.iload_n 1, 1) := by decide +kernel
theorem dX7_isElement_5 : decode cX7_isElement 5 = .ok (.aload_n 0, 1) := by decide +kernel
theorem dX7_isElement_6 : decode cX7_isElement 6 = .ok (.getfield 51, 3) := by decide +kernel
theorem dX7_isElement_9 : decode cX7_isElement 9 = .ok (.getfield 322, 3) := by decide +kernel
theorem dX7_isElement_12 : decode cX7_isElement 12 = .ok (.if_icmp .ge 7, 3) := by decide +kernel
theorem dX7_isElement_15 : decode cX7_isElement 15 = .ok (.iconst 1, 1) := by decide +kernel
theorem dX7_isElement_16 : decode cX7_isElement 16 = .ok (.goto 4, 3) := by decide +kernel
theorem dX7_isElement_19 : decode cX7_isElement 19 = .ok (.iconst 0, 1) := by decide +kernel
theorem dX7_isElement_20 : decode cX7_isElement 20 = .ok (.ireturn, 1) := by decide +kernel
theorem dX7_isNote_0 : decode cX7_isNote 0 = .ok (.aload_n 0, 1) := by decide +kernel
theorem dX7_isNote_1 : decode cX7_isNote 1 = .ok (.iload_n 1, 1) := by decide +kernel
theorem dX7_isNote_2 : decode cX7_isNote 2 = .ok (.invokevirtual 96, 3) := by decide +kernel
theorem dX7_isNote_5 : decode cX7_isNote 5 = .ok (.ifCond .eq 19, 3) := by decide +kernel
theorem dX7_isNote_8 : decode cX7_isNote 8 = .ok (.aload_n 0, 1) := by decide +kernel
theorem dX7_isNote_9 : decode cX7_isNote 9 = .ok (.getfield 51, 3) := by decide +kernel
theorem dX7_isNote_12 : decode cX7_isNote 12 = .ok (.getfield 109, 3) := by decide +kernel
theorem dX7_isNote_15 : decode cX7_isNote 15 = .ok (.iload_n 1, 1) := by decide +kernel
theorem dX7_isNote_16 : decode cX7_isNote 16 = .ok (.baload, 1) := by decide +kernel
theorem dX7_isNote_17 : decode cX7_isNote 17 = .ok (.ifCond .eq 7, 3) := by decide +kernel
theorem dX7_isNote_20 : decode cX7_isNote 20 = .ok (.iconst 1, 1) := by decide +kernel
theorem dX7_isNote_21 : decode cX7_isNote 21 = .ok (.goto 4, 3) := by decide +kernel
theorem dX7_isNote_24 : decode cX7_isNote 24 = .ok (.iconst 0, 1) := by decide +kernel
theorem dX7_isNote_25 : decode cX7_isNote 25 = .ok (.ireturn, 1) := by decide +kernel
theorem dX7_isGrouped_0 : decode cX7_isGrouped 0 = .ok (.aload_n 0, 1) := by decide +kernel
theorem dX7_isGrouped_1 : decode cX7_isGrouped 1 = .ok (.iload_n 1, 1) := by decide +kernel
theorem dX7_isGrouped_2 : decode cX7_isGrouped 2 = .ok (.invokevirtual 96, 3) := by decide +kernel
theorem dX7_isGrouped_5 : decode cX7_isGrouped 5 = .ok (.ifCond .eq 19, 3) := by decide +kernel
theorem dX7_isGrouped_8 : decode cX7_isGrouped 8 = .ok (.aload_n 0, 1) := by decide +kernel
theorem dX7_isGrouped_9 : decode cX7_isGrouped 9 = .ok (.getfield 51, 3) := by decide +kernel
theorem dX7_isGrouped_12 : decode cX7_isGrouped 12 = .ok (.getfield 130, 3) := by decide +kernel
theorem dX7_isGrouped_15 : decode cX7_isGrouped 15 = .ok (.iload_n 1, 1) := by decide +kernel
theorem dX7_isGrouped_16 : decode cX7_isGrouped 16 = .ok (.iaload, 1) := by decide +kernel
theorem dX7_isGrouped_17 : decode cX7_isGrouped 17 = .ok (.ifCond .lt 7, 3) := by decide +kernel
theorem dX7_isGrouped_20 : decode cX7_isGrouped 20 = .ok (.iconst 1, 1) := by decide +kernel
theorem dX7_isGrouped_21 : decode cX7_isGrouped 21 = .ok (.goto 4, 3) := by decide +kernel
theorem dX7_isGrouped_24 : decode cX7_isGrouped 24 = .ok (.iconst 0, 1) := by decide +kernel
theorem dX7_isGrouped_25 : decode cX7_isGrouped 25 = .ok (.ireturn, 1) := by decide +kernel
theorem dX7_isGroup_0 : decode cX7_isGroup 0 = .ok (.iload_n 1, 1) := by decide +kernel
theorem dX7_isGroup_1 : decode cX7_isGroup 1 = .ok (.ifCond .lt 18, 3) := by decide +kernel
theorem dX7_isGroup_4 : decode cX7_isGroup 4 = .ok (.iload_n 1, 1) := by decide +kernel
theorem dX7_isGroup_5 : decode cX7_isGroup 5 = .ok (.aload_n 0, 1) := by decide +kernel
theorem dX7_isGroup_6 : decode cX7_isGroup 6 = .ok (.getfield 51, 3) := by decide +kernel
theorem dX7_isGroup_9 : decode cX7_isGroup 9 = .ok (.getfield 316, 3) := by decide +kernel
theorem dX7_isGroup_12 : decode cX7_isGroup 12 = .ok (.if_icmp .ge 7, 3) := by decide +kernel
theorem dX7_isGroup_15 : decode cX7_isGroup 15 = .ok (.iconst 1, 1) := by decide +kernel
theorem dX7_isGroup_16 : decode cX7_isGroup 16 = .ok (.goto 4, 3) := by decide +kernel
theorem dX7_isGroup_19 : decode cX7_isGroup 19 = .ok (.iconst 0, 1) := by decide +kernel
theorem dX7_isGroup_20 : decode cX7_isGroup 20 = .ok (.ireturn, 1) := by decide +kernel
theorem dX7_isPosition_0 : decode cX7_isPosition 0 = .ok (.iload_n 0, 1) := by decide +kernel
theorem dX7_isPosition_1 : decode cX7_isPosition 1 = .ok (.bipush (-12), 2) := by decide +kernel
theorem dX7_isPosition_3 : decode cX7_isPosition 3 = .ok (.if_icmp .lt 13, 3) := by decide +kernel
theorem dX7_isPosition_6 : decode cX7_isPosition 6 = .ok (.iload_n 0, 1) := by decide +kernel
theorem dX7_isPosition_7 : decode cX7_isPosition 7 = .ok (.bipush 12, 2) := by decide +kernel
theorem dX7_isPosition_9 : decode cX7_isPosition 9 = .ok (.if_icmp .gt 7, 3) := by decide +kernel
theorem dX7_isPosition_12 : decode cX7_isPosition 12 = .ok (.iconst 1, 1) := by decide +kernel
theorem dX7_isPosition_13 : decode cX7_isPosition 13 = .ok (.goto 4, 3) := by decide +kernel
theorem dX7_isPosition_16 : decode cX7_isPosition 16 = .ok (.iconst 0, 1) := by decide +kernel
theorem dX7_isPosition_17 : decode cX7_isPosition 17 = .ok (.ireturn, 1) := by decide +kernel
theorem dX7_outward_0 : decode cX7_outward 0 = .ok (.iload_n 0, 1) := by decide +kernel
theorem dX7_outward_1 : decode cX7_outward 1 = .ok (.iconst 2, 1) := by decide +kernel
theorem dX7_outward_2 : decode cX7_outward 2 = .ok (.irem, 1) := by decide +kernel
theorem dX7_outward_3 : decode cX7_outward 3 = .ok (.ifCond .ne 9, 3) := by decide +kernel
theorem dX7_outward_6 : decode cX7_outward 6 = .ok (.iload_n 0, 1) := by decide +kernel
theorem dX7_outward_7 : decode cX7_outward 7 = .ok (.iconst 2, 1) := by decide +kernel
theorem dX7_outward_8 : decode cX7_outward 8 = .ok (.idiv, 1) := by decide +kernel
theorem dX7_outward_9 : decode cX7_outward 9 = .ok (.goto 9, 3) := by decide +kernel
theorem dX7_outward_12 : decode cX7_outward 12 = .ok (.iload_n 0, 1) := by decide +kernel
theorem dX7_outward_13 : decode cX7_outward 13 = .ok (.iconst 1, 1) := by decide +kernel
theorem dX7_outward_14 : decode cX7_outward 14 = .ok (.iadd, 1) := by decide +kernel
theorem dX7_outward_15 : decode cX7_outward 15 = .ok (.ineg, 1) := by decide +kernel
theorem dX7_outward_16 : decode cX7_outward 16 = .ok (.iconst 2, 1) := by decide +kernel
theorem dX7_outward_17 : decode cX7_outward 17 = .ok (.idiv, 1) := by decide +kernel
theorem dX7_outward_18 : decode cX7_outward 18 = .ok (.ireturn, 1) := by decide +kernel
theorem dX7_load_0 : decode cX7_load 0 = .ok (.aload_n 0, 1) := by decide +kernel
theorem dX7_load_1 : decode cX7_load 1 = .ok (.getfield 26, 3) := by decide +kernel
theorem dX7_load_4 : decode cX7_load 4 = .ok (.aload_n 0, 1) := by decide +kernel
theorem dX7_load_5 : decode cX7_load 5 = .ok (.getfield 51, 3) := by decide +kernel
theorem dX7_load_8 : decode cX7_load 8 = .ok (.aload_n 0, 1) := by decide +kernel
theorem dX7_load_9 : decode cX7_load 9 = .ok (.getfield 51, 3) := by decide +kernel
theorem dX7_load_12 : decode cX7_load 12 = .ok (.getfield 144, 3) := by decide +kernel
theorem dX7_load_15 : decode cX7_load 15 = .ok (.aload_n 0, 1) := by decide +kernel
theorem dX7_load_16 : decode cX7_load 16 = .ok (.getfield 51, 3) := by decide +kernel
theorem dX7_load_19 : decode cX7_load 19 = .ok (.getfield 179, 3) := by decide +kernel
theorem dX7_load_22 : decode cX7_load 22 = .ok (.iload_n 1, 1) := by decide +kernel
theorem dX7_load_23 : decode cX7_load 23 = .ok (.iaload, 1) := by decide +kernel
theorem dX7_load_24 : decode cX7_load 24 = .ok (.aload_n 0, 1) := by decide +kernel
theorem dX7_load_25 : decode cX7_load 25 = .ok (.getfield 51, 3) := by decide +kernel
theorem dX7_load_28 : decode cX7_load 28 = .ok (.getfield 341, 3) := by decide +kernel
theorem dX7_load_31 : decode cX7_load 31 = .ok (.iload_n 1, 1) := by decide +kernel
theorem dX7_load_32 : decode cX7_load 32 = .ok (.iaload, 1) := by decide +kernel
theorem dX7_load_33 : decode cX7_load 33 = .ok (.aload_n 0, 1) := by decide +kernel
theorem dX7_load_34 : decode cX7_load 34 = .ok (.getfield 51, 3) := by decide +kernel
theorem dX7_load_37 : decode cX7_load 37 = .ok (.getfield 294, 3) := by decide +kernel
theorem dX7_load_40 : decode cX7_load 40 = .ok (.invokevirtual 382, 3) := by decide +kernel
theorem dX7_load_43 : decode cX7_load 43 = .ok (.return_, 1) := by decide +kernel
theorem dX7_loadTried_0 : decode cX7_loadTried 0 = .ok (.aload_n 0, 1) := by decide +kernel
theorem dX7_loadTried_1 : decode cX7_loadTried 1 = .ok (.getfield 26, 3) := by decide +kernel
theorem dX7_loadTried_4 : decode cX7_loadTried 4 = .ok (.aload_n 0, 1) := by decide +kernel
theorem dX7_loadTried_5 : decode cX7_loadTried 5 = .ok (.getfield 51, 3) := by decide +kernel
theorem dX7_loadTried_8 : decode cX7_loadTried 8 = .ok (.aload_n 0, 1) := by decide +kernel
theorem dX7_loadTried_9 : decode cX7_loadTried 9 = .ok (.getfield 46, 3) := by decide +kernel
theorem dX7_loadTried_12 : decode cX7_loadTried 12 = .ok (.aload_n 0, 1) := by decide +kernel
theorem dX7_loadTried_13 : decode cX7_loadTried 13 = .ok (.getfield 51, 3) := by decide +kernel
theorem dX7_loadTried_16 : decode cX7_loadTried 16 = .ok (.getfield 179, 3) := by decide +kernel
theorem dX7_loadTried_19 : decode cX7_loadTried 19 = .ok (.iload_n 1, 1) := by decide +kernel
theorem dX7_loadTried_20 : decode cX7_loadTried 20 = .ok (.iaload, 1) := by decide +kernel
theorem dX7_loadTried_21 : decode cX7_loadTried 21 = .ok (.aload_n 0, 1) := by decide +kernel
theorem dX7_loadTried_22 : decode cX7_loadTried 22 = .ok (.getfield 51, 3) := by decide +kernel
theorem dX7_loadTried_25 : decode cX7_loadTried 25 = .ok (.getfield 341, 3) := by decide +kernel
theorem dX7_loadTried_28 : decode cX7_loadTried 28 = .ok (.iload_n 1, 1) := by decide +kernel
theorem dX7_loadTried_29 : decode cX7_loadTried 29 = .ok (.iaload, 1) := by decide +kernel
theorem dX7_loadTried_30 : decode cX7_loadTried 30 = .ok (.aload_n 0, 1) := by decide +kernel
theorem dX7_loadTried_31 : decode cX7_loadTried 31 = .ok (.getfield 51, 3) := by decide +kernel
theorem dX7_loadTried_34 : decode cX7_loadTried 34 = .ok (.getfield 294, 3) := by decide +kernel
theorem dX7_loadTried_37 : decode cX7_loadTried 37 = .ok (.invokevirtual 382, 3) := by decide +kernel
theorem dX7_loadTried_40 : decode cX7_loadTried 40 = .ok (.return_, 1) := by decide +kernel
theorem dX7_loadAround_0 : decode cX7_loadAround 0 = .ok (.aload_n 0, 1) := by decide +kernel
theorem dX7_loadAround_1 : decode cX7_loadAround 1 = .ok (.getfield 51, 3) := by decide +kernel
theorem dX7_loadAround_4 : decode cX7_loadAround 4 = .ok (.getfield 130, 3) := by decide +kernel
theorem dX7_loadAround_7 : decode cX7_loadAround 7 = .ok (.iload_n 1, 1) := by decide +kernel
theorem dX7_loadAround_8 : decode cX7_loadAround 8 = .ok (.iaload, 1) := by decide +kernel
theorem dX7_loadAround_9 : decode cX7_loadAround 9 = .ok (.istore_n 2, 1) := by decide +kernel
theorem dX7_loadAround_10 : decode cX7_loadAround 10 = .ok (.aload_n 0, 1) := by decide +kernel
theorem dX7_loadAround_11 : decode cX7_loadAround 11 = .ok (.iload_n 2, 1) := by decide +kernel
theorem dX7_loadAround_12 : decode cX7_loadAround 12 = .ok (.invokevirtual 176, 3) := by decide +kernel
theorem dX7_loadAround_15 : decode cX7_loadAround 15 = .ok (.iload_n 1, 1) := by decide +kernel
theorem dX7_loadAround_16 : decode cX7_loadAround 16 = .ok (.aload_n 0, 1) := by decide +kernel
theorem dX7_loadAround_17 : decode cX7_loadAround 17 = .ok (.getfield 51, 3) := by decide +kernel
theorem dX7_loadAround_20 : decode cX7_loadAround 20 = .ok (.getfield 179, 3) := by decide +kernel
theorem dX7_loadAround_23 : decode cX7_loadAround 23 = .ok (.iload_n 2, 1) := by decide +kernel
theorem dX7_loadAround_24 : decode cX7_loadAround 24 = .ok (.iaload, 1) := by decide +kernel
theorem dX7_loadAround_25 : decode cX7_loadAround 25 = .ok (.isub, 1) := by decide +kernel
theorem dX7_loadAround_26 : decode cX7_loadAround 26 = .ok (.ireturn, 1) := by decide +kernel
theorem dX7_tryShifted_0 : decode cX7_tryShifted 0 = .ok (.iconst 0, 1) := by decide +kernel
theorem dX7_tryShifted_1 : decode cX7_tryShifted 1 = .ok (.istore_n 2, 1) := by decide +kernel
theorem dX7_tryShifted_2 : decode cX7_tryShifted 2 = .ok (.iload_n 2, 1) := by decide +kernel
theorem dX7_tryShifted_3 : decode cX7_tryShifted 3 = .ok (.aload_n 0, 1) := by decide +kernel
theorem dX7_tryShifted_4 : decode cX7_tryShifted 4 = .ok (.getfield 51, 3) := by decide +kernel
theorem dX7_tryShifted_7 : decode cX7_tryShifted 7 = .ok (.getfield 322, 3) := by decide +kernel
theorem dX7_tryShifted_10 : decode cX7_tryShifted 10 = .ok (.if_icmp .ge 56, 3) := by decide +kernel
theorem dX7_tryShifted_13 : decode cX7_tryShifted 13 = .ok (.aload_n 0, 1) := by decide +kernel
theorem dX7_tryShifted_14 : decode cX7_tryShifted 14 = .ok (.getfield 46, 3) := by decide +kernel
theorem dX7_tryShifted_17 : decode cX7_tryShifted 17 = .ok (.iload_n 2, 1) := by decide +kernel
theorem dX7_tryShifted_18 : decode cX7_tryShifted 18 = .ok (.aload_n 0, 1) := by decide +kernel
theorem dX7_tryShifted_19 : decode cX7_tryShifted 19 = .ok (.getfield 51, 3) := by decide +kernel
theorem dX7_tryShifted_22 : decode cX7_tryShifted 22 = .ok (.getfield 109, 3) := by decide +kernel
theorem dX7_tryShifted_25 : decode cX7_tryShifted 25 = .ok (.iload_n 2, 1) := by decide +kernel
theorem dX7_tryShifted_26 : decode cX7_tryShifted 26 = .ok (.baload, 1) := by decide +kernel
theorem dX7_tryShifted_27 : decode cX7_tryShifted 27 = .ok (.ifCond .eq 17, 3) := by decide +kernel
theorem dX7_tryShifted_30 : decode cX7_tryShifted 30 = .ok (.aload_n 0, 1) := by decide +kernel
theorem dX7_tryShifted_31 : decode cX7_tryShifted 31 = .ok (.getfield 51, 3) := by decide +kernel
theorem dX7_tryShifted_34 : decode cX7_tryShifted 34 = .ok (.getfield 144, 3) := by decide +kernel
theorem dX7_tryShifted_37 : decode cX7_tryShifted 37 = .ok (.iload_n 2, 1) := by decide +kernel
theorem dX7_tryShifted_38 : decode cX7_tryShifted 38 = .ok (.iaload, 1) := by decide +kernel
theorem dX7_tryShifted_39 : decode cX7_tryShifted 39 = .ok (.iload_n 1, 1) := by decide +kernel
theorem dX7_tryShifted_40 : decode cX7_tryShifted 40 = .ok (.iadd, 1) := by decide +kernel
theorem dX7_tryShifted_41 : decode cX7_tryShifted 41 = .ok (.goto 4, 3) := by decide +kernel
theorem dX7_tryShifted_44 : decode cX7_tryShifted 44 = .ok (.iconst 0, 1) := by decide +kernel
theorem dX7_tryShifted_45 : decode cX7_tryShifted 45 = .ok (.iastore, 1) := by decide +kernel
theorem dX7_tryShifted_46 : decode cX7_tryShifted 46 = .ok (.aload_n 0, 1) := by decide +kernel
theorem dX7_tryShifted_47 : decode cX7_tryShifted 47 = .ok (.getfield 46, 3) := by decide +kernel
theorem dX7_tryShifted_50 : decode cX7_tryShifted 50 = .ok (.iload_n 2, 1) := by decide +kernel
theorem dX7_tryShifted_51 : decode cX7_tryShifted 51 = .ok (.iaload, 1) := by decide +kernel
theorem dX7_tryShifted_52 : decode cX7_tryShifted 52 = .ok (.invokestatic 154, 3) := by decide +kernel
theorem dX7_tryShifted_55 : decode cX7_tryShifted 55 = .ok (.ifCond .ne 5, 3) := by decide +kernel
theorem dX7_tryShifted_58 : decode cX7_tryShifted 58 = .ok (.iconst 0, 1) := by decide +kernel
theorem dX7_tryShifted_59 : decode cX7_tryShifted 59 = .ok (.ireturn, 1) := by decide +kernel
theorem dX7_tryShifted_60 : decode cX7_tryShifted 60 = .ok (.iinc 2 1, 3) := by decide +kernel
theorem dX7_tryShifted_63 : decode cX7_tryShifted 63 = .ok (.goto (-61), 3) := by decide +kernel
theorem dX7_tryShifted_66 : decode cX7_tryShifted 66 = .ok (.iconst 1, 1) := by decide +kernel
theorem dX7_tryShifted_67 : decode cX7_tryShifted 67 = .ok (.ireturn, 1) := by decide +kernel
theorem dX7_tellBest_0 : decode cX7_tellBest 0 = .ok (.iload_n 1, 1) := by decide +kernel
theorem dX7_tellBest_1 : decode cX7_tellBest 1 = .ok (.ifCond .lt 8, 3) := by decide +kernel
theorem dX7_tellBest_4 : decode cX7_tellBest 4 = .ok (.iload_n 1, 1) := by decide +kernel
theorem dX7_tellBest_5 : decode cX7_tellBest 5 = .ok (.iconst 5, 1) := by decide +kernel
theorem dX7_tellBest_6 : decode cX7_tellBest 6 = .ok (.if_icmp .le 6, 3) := by decide +kernel
theorem dX7_tellBest_9 : decode cX7_tellBest 9 = .ok (.ldc 147, 2) := by decide +kernel
theorem dX7_tellBest_11 : decode cX7_tellBest 11 = .ok (.ireturn, 1) := by decide +kernel
theorem dX7_tellBest_12 : decode cX7_tellBest 12 = .ok (.aload_n 0, 1) := by decide +kernel
theorem dX7_tellBest_13 : decode cX7_tellBest 13 = .ok (.getfield 26, 3) := by decide +kernel
theorem dX7_tellBest_16 : decode cX7_tellBest 16 = .ok (.invokevirtual 238, 3) := by decide +kernel
theorem dX7_tellBest_19 : decode cX7_tellBest 19 = .ok (.lstore_n 2, 1) := by decide +kernel
theorem dX7_tellBest_20 : decode cX7_tellBest 20 = .ok (.lload_n 2, 1) := by decide +kernel
theorem dX7_tellBest_21 : decode cX7_tellBest 21 = .ok (.ldc2_w 242, 3) := by decide +kernel
theorem dX7_tellBest_24 : decode cX7_tellBest 24 = .ok (.lcmp, 1) := by decide +kernel
theorem dX7_tellBest_25 : decode cX7_tellBest 25 = .ok (.ifCond .ne 8, 3) := by decide +kernel
theorem dX7_tellBest_28 : decode cX7_tellBest 28 = .ok (.ldc 147, 2) := by decide +kernel
theorem dX7_tellBest_30 : decode cX7_tellBest 30 = .ok (.goto 12, 3) := by decide +kernel
theorem dX7_tellBest_33 : decode cX7_tellBest 33 = .ok (.aload_n 0, 1) := by decide +kernel
theorem dX7_tellBest_34 : decode cX7_tellBest 34 = .ok (.getfield 26, 3) := by decide +kernel
theorem dX7_tellBest_37 : decode cX7_tellBest 37 = .ok (.lload_n 2, 1) := by decide +kernel
theorem dX7_tellBest_38 : decode cX7_tellBest 38 = .ok (.iload_n 1, 1) := by decide +kernel
theorem dX7_tellBest_39 : decode cX7_tellBest 39 = .ok (.invokevirtual 226, 3) := by decide +kernel
theorem dX7_tellBest_42 : decode cX7_tellBest 42 = .ok (.ireturn, 1) := by decide +kernel
theorem dX7_tellStretch_0 : decode cX7_tellStretch 0 = .ok (.iload_n 3, 1) := by decide +kernel
theorem dX7_tellStretch_1 : decode cX7_tellStretch 1 = .ok (.lookupswitch 31 #[(0, 27), (1, 29)], 27) := by decide +kernel
theorem dX7_tellStretch_28 : decode cX7_tellStretch 28 = .ok (.iload_n 1, 1) := by decide +kernel
theorem dX7_tellStretch_29 : decode cX7_tellStretch 29 = .ok (.ireturn, 1) := by decide +kernel
theorem dX7_tellStretch_30 : decode cX7_tellStretch 30 = .ok (.iload_n 2, 1) := by decide +kernel
theorem dX7_tellStretch_31 : decode cX7_tellStretch 31 = .ok (.ireturn, 1) := by decide +kernel
theorem dX7_tellStretch_32 : decode cX7_tellStretch 32 = .ok (.aload_n 0, 1) := by decide +kernel
theorem dX7_tellStretch_33 : decode cX7_tellStretch 33 = .ok (.getfield 51, 3) := by decide +kernel
theorem dX7_tellStretch_36 : decode cX7_tellStretch 36 = .ok (.getfield 124, 3) := by decide +kernel
theorem dX7_tellStretch_39 : decode cX7_tellStretch 39 = .ok (.iload_n 2, 1) := by decide +kernel
theorem dX7_tellStretch_40 : decode cX7_tellStretch 40 = .ok (.iaload, 1) := by decide +kernel
theorem dX7_tellStretch_41 : decode cX7_tellStretch 41 = .ok (.aload_n 0, 1) := by decide +kernel
theorem dX7_tellStretch_42 : decode cX7_tellStretch 42 = .ok (.getfield 51, 3) := by decide +kernel
theorem dX7_tellStretch_45 : decode cX7_tellStretch 45 = .ok (.getfield 124, 3) := by decide +kernel
theorem dX7_tellStretch_48 : decode cX7_tellStretch 48 = .ok (.iload_n 1, 1) := by decide +kernel
theorem dX7_tellStretch_49 : decode cX7_tellStretch 49 = .ok (.iaload, 1) := by decide +kernel
theorem dX7_tellStretch_50 : decode cX7_tellStretch 50 = .ok (.isub, 1) := by decide +kernel
theorem dX7_tellStretch_51 : decode cX7_tellStretch 51 = .ok (.ireturn, 1) := by decide +kernel
theorem dX7_uglinessOfCut_0 : decode cX7_uglinessOfCut 0 = .ok (.aload_n 0, 1) := by decide +kernel
theorem dX7_uglinessOfCut_1 : decode cX7_uglinessOfCut 1 = .ok (.aload_n 0, 1) := by decide +kernel
theorem dX7_uglinessOfCut_2 : decode cX7_uglinessOfCut 2 = .ok (.getfield 51, 3) := by decide +kernel
theorem dX7_uglinessOfCut_5 : decode cX7_uglinessOfCut 5 = .ok (.getfield 179, 3) := by decide +kernel
theorem dX7_uglinessOfCut_8 : decode cX7_uglinessOfCut 8 = .ok (.iload_n 1, 1) := by decide +kernel
theorem dX7_uglinessOfCut_9 : decode cX7_uglinessOfCut 9 = .ok (.iaload, 1) := by decide +kernel
theorem dX7_uglinessOfCut_10 : decode cX7_uglinessOfCut 10 = .ok (.iload_n 2, 1) := by decide +kernel
theorem dX7_uglinessOfCut_11 : decode cX7_uglinessOfCut 11 = .ok (.invokevirtual 385, 3) := by decide +kernel
theorem dX7_uglinessOfCut_14 : decode cX7_uglinessOfCut 14 = .ok (.istore_n 3, 1) := by decide +kernel
theorem dX7_uglinessOfCut_15 : decode cX7_uglinessOfCut 15 = .ok (.iload_n 3, 1) := by decide +kernel
theorem dX7_uglinessOfCut_16 : decode cX7_uglinessOfCut 16 = .ok (.bipush (-2), 2) := by decide +kernel
theorem dX7_uglinessOfCut_18 : decode cX7_uglinessOfCut 18 = .ok (.if_icmp .ne 6, 3) := by decide +kernel
theorem dX7_uglinessOfCut_21 : decode cX7_uglinessOfCut 21 = .ok (.bipush (-2), 2) := by decide +kernel
theorem dX7_uglinessOfCut_23 : decode cX7_uglinessOfCut 23 = .ok (.ireturn, 1) := by decide +kernel
theorem dX7_uglinessOfCut_24 : decode cX7_uglinessOfCut 24 = .ok (.aload_n 0, 1) := by decide +kernel
theorem dX7_uglinessOfCut_25 : decode cX7_uglinessOfCut 25 = .ok (.aload_n 0, 1) := by decide +kernel
theorem dX7_uglinessOfCut_26 : decode cX7_uglinessOfCut 26 = .ok (.getfield 51, 3) := by decide +kernel
theorem dX7_uglinessOfCut_29 : decode cX7_uglinessOfCut 29 = .ok (.getfield 179, 3) := by decide +kernel
theorem dX7_uglinessOfCut_32 : decode cX7_uglinessOfCut 32 = .ok (.iload_n 1, 1) := by decide +kernel
theorem dX7_uglinessOfCut_33 : decode cX7_uglinessOfCut 33 = .ok (.iaload, 1) := by decide +kernel
theorem dX7_uglinessOfCut_34 : decode cX7_uglinessOfCut 34 = .ok (.iload_n 2, 1) := by decide +kernel
theorem dX7_uglinessOfCut_35 : decode cX7_uglinessOfCut 35 = .ok (.iadd, 1) := by decide +kernel
theorem dX7_uglinessOfCut_36 : decode cX7_uglinessOfCut 36 = .ok (.aload_n 0, 1) := by decide +kernel
theorem dX7_uglinessOfCut_37 : decode cX7_uglinessOfCut 37 = .ok (.getfield 51, 3) := by decide +kernel
theorem dX7_uglinessOfCut_40 : decode cX7_uglinessOfCut 40 = .ok (.getfield 341, 3) := by decide +kernel
theorem dX7_uglinessOfCut_43 : decode cX7_uglinessOfCut 43 = .ok (.iload_n 1, 1) := by decide +kernel
theorem dX7_uglinessOfCut_44 : decode cX7_uglinessOfCut 44 = .ok (.iaload, 1) := by decide +kernel
theorem dX7_uglinessOfCut_45 : decode cX7_uglinessOfCut 45 = .ok (.iload_n 2, 1) := by decide +kernel
theorem dX7_uglinessOfCut_46 : decode cX7_uglinessOfCut 46 = .ok (.isub, 1) := by decide +kernel
theorem dX7_uglinessOfCut_47 : decode cX7_uglinessOfCut 47 = .ok (.invokevirtual 385, 3) := by decide +kernel
theorem dX7_uglinessOfCut_50 : decode cX7_uglinessOfCut 50 = .ok (.istore 4, 2) := by decide +kernel
theorem dX7_uglinessOfCut_52 : decode cX7_uglinessOfCut 52 = .ok (.iload 4, 2) := by decide +kernel
theorem dX7_uglinessOfCut_54 : decode cX7_uglinessOfCut 54 = .ok (.bipush (-2), 2) := by decide +kernel
theorem dX7_uglinessOfCut_56 : decode cX7_uglinessOfCut 56 = .ok (.if_icmp .ne 8, 3) := by decide +kernel
theorem dX7_uglinessOfCut_59 : decode cX7_uglinessOfCut 59 = .ok (.bipush (-2), 2) := by decide +kernel
theorem dX7_uglinessOfCut_61 : decode cX7_uglinessOfCut 61 = .ok (.goto 7, 3) := by decide +kernel
theorem dX7_uglinessOfCut_64 : decode cX7_uglinessOfCut 64 = .ok (.iload_n 3, 1) := by decide +kernel
theorem dX7_uglinessOfCut_65 : decode cX7_uglinessOfCut 65 = .ok (.iload 4, 2) := by decide +kernel
theorem dX7_uglinessOfCut_67 : decode cX7_uglinessOfCut 67 = .ok (.iadd, 1) := by decide +kernel
theorem dX7_uglinessOfCut_68 : decode cX7_uglinessOfCut 68 = .ok (.ireturn, 1) := by decide +kernel
theorem dX7_uglinessOfNotes_0 : decode cX7_uglinessOfNotes 0 = .ok (.iload_n 2, 1) := by decide +kernel
theorem dX7_uglinessOfNotes_1 : decode cX7_uglinessOfNotes 1 = .ok (.iconst 1, 1) := by decide +kernel
theorem dX7_uglinessOfNotes_2 : decode cX7_uglinessOfNotes 2 = .ok (.if_icmp .ne 5, 3) := by decide +kernel
theorem dX7_uglinessOfNotes_5 : decode cX7_uglinessOfNotes 5 = .ok (.iconst 0, 1) := by decide +kernel
theorem dX7_uglinessOfNotes_6 : decode cX7_uglinessOfNotes 6 = .ok (.ireturn, 1) := by decide +kernel
theorem dX7_uglinessOfNotes_7 : decode cX7_uglinessOfNotes 7 = .ok (.aload_n 0, 1) := by decide +kernel
theorem dX7_uglinessOfNotes_8 : decode cX7_uglinessOfNotes 8 = .ok (.getfield 26, 3) := by decide +kernel
theorem dX7_uglinessOfNotes_11 : decode cX7_uglinessOfNotes 11 = .ok (.aload_n 0, 1) := by decide +kernel
theorem dX7_uglinessOfNotes_12 : decode cX7_uglinessOfNotes 12 = .ok (.getfield 51, 3) := by decide +kernel
theorem dX7_uglinessOfNotes_15 : decode cX7_uglinessOfNotes 15 = .ok (.aload_n 0, 1) := by decide +kernel
theorem dX7_uglinessOfNotes_16 : decode cX7_uglinessOfNotes 16 = .ok (.getfield 51, 3) := by decide +kernel
theorem dX7_uglinessOfNotes_19 : decode cX7_uglinessOfNotes 19 = .ok (.getfield 144, 3) := by decide +kernel
theorem dX7_uglinessOfNotes_22 : decode cX7_uglinessOfNotes 22 = .ok (.iload_n 1, 1) := by decide +kernel
theorem dX7_uglinessOfNotes_23 : decode cX7_uglinessOfNotes 23 = .ok (.iload_n 2, 1) := by decide +kernel
theorem dX7_uglinessOfNotes_24 : decode cX7_uglinessOfNotes 24 = .ok (.aload_n 0, 1) := by decide +kernel
theorem dX7_uglinessOfNotes_25 : decode cX7_uglinessOfNotes 25 = .ok (.getfield 51, 3) := by decide +kernel
theorem dX7_uglinessOfNotes_28 : decode cX7_uglinessOfNotes 28 = .ok (.getfield 294, 3) := by decide +kernel
theorem dX7_uglinessOfNotes_31 : decode cX7_uglinessOfNotes 31 = .ok (.invokevirtual 382, 3) := by decide +kernel
theorem dX7_uglinessOfNotes_34 : decode cX7_uglinessOfNotes 34 = .ok (.aload_n 0, 1) := by decide +kernel
theorem dX7_uglinessOfNotes_35 : decode cX7_uglinessOfNotes 35 = .ok (.getfield 26, 3) := by decide +kernel
theorem dX7_uglinessOfNotes_38 : decode cX7_uglinessOfNotes 38 = .ok (.invokevirtual 238, 3) := by decide +kernel
theorem dX7_uglinessOfNotes_41 : decode cX7_uglinessOfNotes 41 = .ok (.lstore_n 3, 1) := by decide +kernel
theorem dX7_uglinessOfNotes_42 : decode cX7_uglinessOfNotes 42 = .ok (.lload_n 3, 1) := by decide +kernel
theorem dX7_uglinessOfNotes_43 : decode cX7_uglinessOfNotes 43 = .ok (.ldc2_w 242, 3) := by decide +kernel
theorem dX7_uglinessOfNotes_46 : decode cX7_uglinessOfNotes 46 = .ok (.lcmp, 1) := by decide +kernel
theorem dX7_uglinessOfNotes_47 : decode cX7_uglinessOfNotes 47 = .ok (.ifCond .ne 8, 3) := by decide +kernel
theorem dX7_uglinessOfNotes_50 : decode cX7_uglinessOfNotes 50 = .ok (.bipush (-2), 2) := by decide +kernel
theorem dX7_uglinessOfNotes_52 : decode cX7_uglinessOfNotes 52 = .ok (.goto 7, 3) := by decide +kernel
theorem dX7_uglinessOfNotes_55 : decode cX7_uglinessOfNotes 55 = .ok (.lload_n 3, 1) := by decide +kernel
theorem dX7_uglinessOfNotes_56 : decode cX7_uglinessOfNotes 56 = .ok (.invokestatic 313, 3) := by decide +kernel
theorem dX7_uglinessOfNotes_59 : decode cX7_uglinessOfNotes 59 = .ok (.ireturn, 1) := by decide +kernel
theorem dX7_greatestDivisor_0 : decode cX7_greatestDivisor 0 = .ok (.iload_n 0, 1) := by decide +kernel
theorem dX7_greatestDivisor_1 : decode cX7_greatestDivisor 1 = .ok (.istore_n 2, 1) := by decide +kernel
theorem dX7_greatestDivisor_2 : decode cX7_greatestDivisor 2 = .ok (.iload_n 1, 1) := by decide +kernel
theorem dX7_greatestDivisor_3 : decode cX7_greatestDivisor 3 = .ok (.istore_n 3, 1) := by decide +kernel
theorem dX7_greatestDivisor_4 : decode cX7_greatestDivisor 4 = .ok (.iconst 0, 1) := by decide +kernel
theorem dX7_greatestDivisor_5 : decode cX7_greatestDivisor 5 = .ok (.istore 4, 2) := by decide +kernel
theorem dX7_greatestDivisor_7 : decode cX7_greatestDivisor 7 = .ok (.iload 4, 2) := by decide +kernel
theorem dX7_greatestDivisor_9 : decode cX7_greatestDivisor 9 = .ok (.bipush 100, 2) := by decide +kernel
theorem dX7_greatestDivisor_11 : decode cX7_greatestDivisor 11 = .ok (.if_icmp .ge 23, 3) := by decide +kernel
theorem dX7_greatestDivisor_14 : decode cX7_greatestDivisor 14 = .ok (.iload_n 3, 1) := by decide +kernel
theorem dX7_greatestDivisor_15 : decode cX7_greatestDivisor 15 = .ok (.ifCond .eq 19, 3) := by decide +kernel
theorem dX7_greatestDivisor_18 : decode cX7_greatestDivisor 18 = .ok (.iload_n 2, 1) := by decide +kernel
theorem dX7_greatestDivisor_19 : decode cX7_greatestDivisor 19 = .ok (.iload_n 3, 1) := by decide +kernel
theorem dX7_greatestDivisor_20 : decode cX7_greatestDivisor 20 = .ok (.irem, 1) := by decide +kernel
theorem dX7_greatestDivisor_21 : decode cX7_greatestDivisor 21 = .ok (.istore 5, 2) := by decide +kernel
theorem dX7_greatestDivisor_23 : decode cX7_greatestDivisor 23 = .ok (.iload_n 3, 1) := by decide +kernel
theorem dX7_greatestDivisor_24 : decode cX7_greatestDivisor 24 = .ok (.istore_n 2, 1) := by decide +kernel
theorem dX7_greatestDivisor_25 : decode cX7_greatestDivisor 25 = .ok (.iload 5, 2) := by decide +kernel
theorem dX7_greatestDivisor_27 : decode cX7_greatestDivisor 27 = .ok (.istore_n 3, 1) := by decide +kernel
theorem dX7_greatestDivisor_28 : decode cX7_greatestDivisor 28 = .ok (.iinc 4 1, 3) := by decide +kernel
theorem dX7_greatestDivisor_31 : decode cX7_greatestDivisor 31 = .ok (.goto (-24), 3) := by decide +kernel
theorem dX7_greatestDivisor_34 : decode cX7_greatestDivisor 34 = .ok (.iload_n 2, 1) := by decide +kernel
theorem dX7_greatestDivisor_35 : decode cX7_greatestDivisor 35 = .ok (.ireturn, 1) := by decide +kernel
