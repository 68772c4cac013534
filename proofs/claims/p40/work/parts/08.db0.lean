theorem dX7_init_0 : decode cX7_init 0 = .ok (.aload_n 0, 1) := by decide +kernel
theorem dX7_init_1 : decode cX7_init 1 = .ok (.invokespecial 1, 3) := by decide +kernel
theorem dX7_init_4 : decode cX7_init 4 = .ok (.aload_n 0, 1) := by decide +kernel
theorem dX7_init_5 : decode cX7_init 5 = .ok (.new 7, 3) := by decide +kernel
theorem dX7_init_8 : decode cX7_init 8 = .ok (.dup, 1) := by decide +kernel
theorem dX7_init_9 : decode cX7_init 9 = .ok (.invokespecial 9, 3) := by decide +kernel
theorem dX7_init_12 : decode cX7_init 12 = .ok (.putfield 10, 3) := by decide +kernel
theorem dX7_init_15 : decode cX7_init 15 = .ok (.aload_n 0, 1) := by decide +kernel
theorem dX7_init_16 : decode cX7_init 16 = .ok (.new 16, 3) := by decide +kernel
theorem dX7_init_19 : decode cX7_init 19 = .ok (.dup, 1) := by decide +kernel
theorem dX7_init_20 : decode cX7_init 20 = .ok (.invokespecial 18, 3) := by decide +kernel
theorem dX7_init_23 : decode cX7_init 23 = .ok (.putfield 19, 3) := by decide +kernel
theorem dX7_init_26 : decode cX7_init 26 = .ok (.aload_n 0, 1) := by decide +kernel
theorem dX7_init_27 : decode cX7_init 27 = .ok (.new 23, 3) := by decide +kernel
theorem dX7_init_30 : decode cX7_init 30 = .ok (.dup, 1) := by decide +kernel
theorem dX7_init_31 : decode cX7_init 31 = .ok (.invokespecial 25, 3) := by decide +kernel
theorem dX7_init_34 : decode cX7_init 34 = .ok (.putfield 26, 3) := by decide +kernel
theorem dX7_init_37 : decode cX7_init 37 = .ok (.aload_n 0, 1) := by decide +kernel
theorem dX7_init_38 : decode cX7_init 38 = .ok (.new 30, 3) := by decide +kernel
theorem dX7_init_41 : decode cX7_init 41 = .ok (.dup, 1) := by decide +kernel
theorem dX7_init_42 : decode cX7_init 42 = .ok (.invokespecial 32, 3) := by decide +kernel
theorem dX7_init_45 : decode cX7_init 45 = .ok (.putfield 33, 3) := by decide +kernel
theorem dX7_init_48 : decode cX7_init 48 = .ok (.aload_n 0, 1) := by decide +kernel
theorem dX7_init_49 : decode cX7_init 49 = .ok (.new 37, 3) := by decide +kernel
theorem dX7_init_52 : decode cX7_init 52 = .ok (.dup, 1) := by decide +kernel
theorem dX7_init_53 : decode cX7_init 53 = .ok (.invokespecial 39, 3) := by decide +kernel
theorem dX7_init_56 : decode cX7_init 56 = .ok (.putfield 40, 3) := by decide +kernel
theorem dX7_init_59 : decode cX7_init 59 = .ok (.aload_n 0, 1) := by decide +kernel
theorem dX7_init_60 : decode cX7_init 60 = .ok (.bipush 64, 2) := by decide +kernel
theorem dX7_init_62 : decode cX7_init 62 = .ok (.newarray .int, 2) := by decide +kernel
theorem dX7_init_64 : decode cX7_init 64 = .ok (.putfield 46, 3) := by decide +kernel
theorem dX7_init_67 : decode cX7_init 67 = .ok (.aload_n 0, 1) := by decide +kernel
theorem dX7_init_68 : decode cX7_init 68 = .ok (.new 44, 3) := by decide +kernel
theorem dX7_init_71 : decode cX7_init 71 = .ok (.dup, 1) := by decide +kernel
theorem dX7_init_72 : decode cX7_init 72 = .ok (.invokespecial 50, 3) := by decide +kernel
theorem dX7_init_75 : decode cX7_init 75 = .ok (.putfield 51, 3) := by decide +kernel
theorem dX7_init_78 : decode cX7_init 78 = .ok (.aload_n 0, 1) := by decide +kernel
theorem dX7_init_79 : decode cX7_init 79 = .ok (.new 44, 3) := by decide +kernel
theorem dX7_init_82 : decode cX7_init 82 = .ok (.dup, 1) := by decide +kernel
theorem dX7_init_83 : decode cX7_init 83 = .ok (.invokespecial 50, 3) := by decide +kernel
theorem dX7_init_86 : decode cX7_init 86 = .ok (.putfield 55, 3) := by decide +kernel
theorem dX7_init_89 : decode cX7_init 89 = .ok (.aload_n 0, 1) := by decide +kernel
theorem dX7_init_90 : decode cX7_init 90 = .ok (.new 58, 3) := by decide +kernel
theorem dX7_init_93 : decode cX7_init 93 = .ok (.dup, 1) := by decide +kernel
theorem dX7_init_94 : decode cX7_init 94 = .ok (.aload_n 0, 1) := by decide +kernel
theorem dX7_init_95 : decode cX7_init 95 = .ok (.getfield 10, 3) := by decide +kernel
theorem dX7_init_98 : decode cX7_init 98 = .ok (.getfield 60, 3) := by decide +kernel
theorem dX7_init_101 : decode cX7_init 101 = .ok (.aload_n 0, 1) := by decide +kernel
theorem dX7_init_102 : decode cX7_init 102 = .ok (.getfield 55, 3) := by decide +kernel
theorem dX7_init_105 : decode cX7_init 105 = .ok (.invokespecial 63, 3) := by decide +kernel
theorem dX7_init_108 : decode cX7_init 108 = .ok (.putfield 66, 3) := by decide +kernel
theorem dX7_init_111 : decode cX7_init 111 = .ok (.return_, 1) := by decide +kernel
theorem dX7_feed_0 : decode cX7_feed 0 = .ok (.aload_n 0, 1) := by decide +kernel
theorem dX7_feed_1 : decode cX7_feed 1 = .ok (.getfield 10, 3) := by decide +kernel
theorem dX7_feed_4 : decode cX7_feed 4 = .ok (.bipush 20, 2) := by decide +kernel
theorem dX7_feed_6 : decode cX7_feed 6 = .ok (.invokevirtual 70, 3) := by decide +kernel
theorem dX7_feed_9 : decode cX7_feed 9 = .ok (.ifCond .ne 5, 3) := by decide +kernel
theorem dX7_feed_12 : decode cX7_feed 12 = .ok (.iconst (-1), 1) := by decide +kernel
theorem dX7_feed_13 : decode cX7_feed 13 = .ok (.ireturn, 1) := by decide +kernel
theorem dX7_feed_14 : decode cX7_feed 14 = .ok (.aload_n 0, 1) := by decide +kernel
theorem dX7_feed_15 : decode cX7_feed 15 = .ok (.getfield 10, 3) := by decide +kernel
theorem dX7_feed_18 : decode cX7_feed 18 = .ok (.iload_n 1, 1) := by decide +kernel
theorem dX7_feed_19 : decode cX7_feed 19 = .ok (.invokevirtual 74, 3) := by decide +kernel
theorem dX7_feed_22 : decode cX7_feed 22 = .ok (.aload_n 0, 1) := by decide +kernel
theorem dX7_feed_23 : decode cX7_feed 23 = .ok (.getfield 10, 3) := by decide +kernel
theorem dX7_feed_26 : decode cX7_feed 26 = .ok (.iload_n 2, 1) := by decide +kernel
theorem dX7_feed_27 : decode cX7_feed 27 = .ok (.invokevirtual 74, 3) := by decide +kernel
theorem dX7_feed_30 : decode cX7_feed 30 = .ok (.aload_n 0, 1) := by decide +kernel
theorem dX7_feed_31 : decode cX7_feed 31 = .ok (.getfield 10, 3) := by decide +kernel
theorem dX7_feed_34 : decode cX7_feed 34 = .ok (.iload_n 3, 1) := by decide +kernel
theorem dX7_feed_35 : decode cX7_feed 35 = .ok (.invokevirtual 74, 3) := by decide +kernel
theorem dX7_feed_38 : decode cX7_feed 38 = .ok (.aload_n 0, 1) := by decide +kernel
theorem dX7_feed_39 : decode cX7_feed 39 = .ok (.getfield 10, 3) := by decide +kernel
theorem dX7_feed_42 : decode cX7_feed 42 = .ok (.iload 4, 2) := by decide +kernel
theorem dX7_feed_44 : decode cX7_feed 44 = .ok (.invokevirtual 74, 3) := by decide +kernel
theorem dX7_feed_47 : decode cX7_feed 47 = .ok (.aload_n 0, 1) := by decide +kernel
theorem dX7_feed_48 : decode cX7_feed 48 = .ok (.getfield 10, 3) := by decide +kernel
theorem dX7_feed_51 : decode cX7_feed 51 = .ok (.iload 5, 2) := by decide +kernel
theorem dX7_feed_53 : decode cX7_feed 53 = .ok (.invokevirtual 74, 3) := by decide +kernel
theorem dX7_feed_56 : decode cX7_feed 56 = .ok (.aload_n 0, 1) := by decide +kernel
theorem dX7_feed_57 : decode cX7_feed 57 = .ok (.getfield 10, 3) := by decide +kernel
theorem dX7_feed_60 : decode cX7_feed 60 = .ok (.getfield 78, 3) := by decide +kernel
theorem dX7_feed_63 : decode cX7_feed 63 = .ok (.ireturn, 1) := by decide +kernel
theorem dX7_text_0 : decode cX7_text 0 = .ok (.iload_n 1, 1) := by decide +kernel
theorem dX7_text_1 : decode cX7_text 1 = .ok (.ifCond .lt 14, 3) := by decide +kernel
theorem dX7_text_4 : decode cX7_text 4 = .ok (.iload_n 1, 1) := by decide +kernel
theorem dX7_text_5 : decode cX7_text 5 = .ok (.aload_n 0, 1) := by decide +kernel
theorem dX7_text_6 : decode cX7_text 6 = .ok (.getfield 10, 3) := by decide +kernel
theorem dX7_text_9 : decode cX7_text 9 = .ok (.getfield 78, 3) := by decide +kernel
theorem dX7_text_12 : decode cX7_text 12 = .ok (.if_icmp .le 6, 3) := by decide +kernel
theorem dX7_text_15 : decode cX7_text 15 = .ok (.bipush (-2), 2) := by decide +kernel
theorem dX7_text_17 : decode cX7_text 17 = .ok (.ireturn, 1) := by decide +kernel
theorem dX7_text_18 : decode cX7_text 18 = .ok (.aload_n 0, 1) := by decide +kernel
theorem dX7_text_19 : decode cX7_text 19 = .ok (.getfield 10, 3) := by decide +kernel
theorem dX7_text_22 : decode cX7_text 22 = .ok (.iconst 0, 1) := by decide +kernel
theorem dX7_text_23 : decode cX7_text 23 = .ok (.putfield 78, 3) := by decide +kernel
theorem dX7_text_26 : decode cX7_text 26 = .ok (.aload_n 0, 1) := by decide +kernel
theorem dX7_text_27 : decode cX7_text 27 = .ok (.getfield 66, 3) := by decide +kernel
theorem dX7_text_30 : decode cX7_text 30 = .ok (.iload_n 1, 1) := by decide +kernel
theorem dX7_text_31 : decode cX7_text 31 = .ok (.aload_n 0, 1) := by decide +kernel
theorem dX7_text_32 : decode cX7_text 32 = .ok (.getfield 55, 3) := by decide +kernel
theorem dX7_text_35 : decode cX7_text 35 = .ok (.invokevirtual 82, 3) := by decide +kernel
theorem dX7_text_38 : decode cX7_text 38 = .ok (.ifCond .ne 5, 3) := by decide +kernel
theorem dX7_text_41 : decode cX7_text 41 = .ok (.iconst (-1), 1) := by decide +kernel
theorem dX7_text_42 : decode cX7_text 42 = .ok (.ireturn, 1) := by decide +kernel
theorem dX7_text_43 : decode cX7_text 43 = .ok (.aload_n 0, 1) := by decide +kernel
theorem dX7_text_44 : decode cX7_text 44 = .ok (.getfield 51, 3) := by decide +kernel
theorem dX7_text_47 : decode cX7_text 47 = .ok (.astore_n 2, 1) := by decide +kernel
theorem dX7_text_48 : decode cX7_text 48 = .ok (.aload_n 0, 1) := by decide +kernel
theorem dX7_text_49 : decode cX7_text 49 = .ok (.aload_n 0, 1) := by decide +kernel
theorem dX7_text_50 : decode cX7_text 50 = .ok (.getfield 55, 3) := by decide +kernel
theorem dX7_text_53 : decode cX7_text 53 = .ok (.putfield 51, 3) := by decide +kernel
theorem dX7_text_56 : decode cX7_text 56 = .ok (.aload_n 0, 1) := by decide +kernel
theorem dX7_text_57 : decode cX7_text 57 = .ok (.aload_n 2, 1) := by decide +kernel
theorem dX7_text_58 : decode cX7_text 58 = .ok (.putfield 55, 3) := by decide +kernel
theorem dX7_text_61 : decode cX7_text 61 = .ok (.aload_n 0, 1) := by decide +kernel
theorem dX7_text_62 : decode cX7_text 62 = .ok (.getfield 19, 3) := by decide +kernel
theorem dX7_text_65 : decode cX7_text 65 = .ok (.iconst 0, 1) := by decide +kernel
theorem dX7_text_66 : decode cX7_text 66 = .ok (.putfield 86, 3) := by decide +kernel
theorem dX7_text_69 : decode cX7_text 69 = .ok (.aload_n 0, 1) := by decide +kernel
theorem dX7_text_70 : decode cX7_text 70 = .ok (.getfield 51, 3) := by decide +kernel
theorem dX7_text_73 : decode cX7_text 73 = .ok (.getfield 87, 3) := by decide +kernel
theorem dX7_text_76 : decode cX7_text 76 = .ok (.ireturn, 1) := by decide +kernel
theorem dX7_position_0 : decode cX7_position 0 = .ok (.aload_n 0, 1) := by decide +kernel
theorem dX7_position_1 : decode cX7_position 1 = .ok (.iload_n 1, 1) := by decide +kernel
theorem dX7_position_2 : decode cX7_position 2 = .ok (.invokevirtual 141, 3) := by decide +kernel
theorem dX7_position_5 : decode cX7_position 5 = .ok (.ifCond .eq 15, 3) := by decide +kernel
theorem dX7_position_8 : decode cX7_position 8 = .ok (.aload_n 0, 1) := by decide +kernel
theorem dX7_position_9 : decode cX7_position 9 = .ok (.getfield 51, 3) := by decide +kernel
theorem dX7_position_12 : decode cX7_position 12 = .ok (.getfield 144, 3) := by decide +kernel
theorem dX7_position_15 : decode cX7_position 15 = .ok (.iload_n 1, 1) := by decide +kernel
theorem dX7_position_16 : decode cX7_position 16 = .ok (.iaload, 1) := by decide +kernel
theorem dX7_position_17 : decode cX7_position 17 = .ok (.goto 5, 3) := by decide +kernel
theorem dX7_position_20 : decode cX7_position 20 = .ok (.ldc 147, 2) := by decide +kernel
theorem dX7_position_22 : decode cX7_position 22 = .ok (.ireturn, 1) := by decide +kernel
theorem dX7_direction_0 : decode cX7_direction 0 = .ok (.aload_n 0, 1) := by decide +kernel
theorem dX7_direction_1 : decode cX7_direction 1 = .ok (.iload_n 1, 1) := by decide +kernel
theorem dX7_direction_2 : decode cX7_direction 2 = .ok (.invokevirtual 96, 3) := by decide +kernel
theorem dX7_direction_5 : decode cX7_direction 5 = .ok (.ifCond .ne 6, 3) := by decide +kernel
theorem dX7_direction_8 : decode cX7_direction 8 = .ok (.ldc 147, 2) := by decide +kernel
theorem dX7_direction_10 : decode cX7_direction 10 = .ok (.ireturn, 1) := by decide +kernel
theorem dX7_direction_11 : decode cX7_direction 11 = .ok (.aload_n 0, 1) := by decide +kernel
theorem dX7_direction_12 : decode cX7_direction 12 = .ok (.iload_n 1, 1) := by decide +kernel
theorem dX7_direction_13 : decode cX7_direction 13 = .ok (.invokevirtual 127, 3) := by decide +kernel
theorem dX7_direction_16 : decode cX7_direction 16 = .ok (.ifCond .ne 5, 3) := by decide +kernel
theorem dX7_direction_19 : decode cX7_direction 19 = .ok (.iconst 0, 1) := by decide +kernel
theorem dX7_direction_20 : decode cX7_direction 20 = .ok (.ireturn, 1) := by decide +kernel
theorem dX7_direction_21 : decode cX7_direction 21 = .ok (.aload_n 0, 1) := by decide +kernel
theorem dX7_direction_22 : decode cX7_direction 22 = .ok (.getfield 26, 3) := by decide +kernel
theorem dX7_direction_25 : decode cX7_direction 25 = .ok (.getfield 148, 3) := by decide +kernel
theorem dX7_direction_28 : decode cX7_direction 28 = .ok (.aload_n 0, 1) := by decide +kernel
theorem dX7_direction_29 : decode cX7_direction 29 = .ok (.iload_n 1, 1) := by decide +kernel
theorem dX7_direction_30 : decode cX7_direction 30 = .ok (.invokevirtual 151, 3) := by decide +kernel
theorem dX7_direction_33 : decode cX7_direction 33 = .ok (.iaload, 1) := by decide +kernel
theorem dX7_direction_34 : decode cX7_direction 34 = .ok (.ireturn, 1) := by decide +kernel
theorem dX7_put_0 : decode cX7_put 0 = .ok (.aload_n 0, 1) := by decide +kernel
theorem dX7_put_1 : decode cX7_put 1 = .ok (.iload_n 1, 1) := by decide +kernel
theorem dX7_put_2 : decode cX7_put 2 = .ok (.invokevirtual 141, 3) := by decide +kernel
theorem dX7_put_5 : decode cX7_put 5 = .ok (.ifCond .eq 10, 3) := by decide +kernel
theorem dX7_put_8 : decode cX7_put 8 = .ok (.iload_n 2, 1) := by decide +kernel
theorem dX7_put_9 : decode cX7_put 9 = .ok (.invokestatic 154, 3) := by decide +kernel
theorem dX7_put_12 : decode cX7_put 12 = .ok (.ifCond .ne 6, 3) := by decide +kernel
theorem dX7_put_15 : decode cX7_put 15 = .ok (.ldc 147, 2) := by decide +kernel
theorem dX7_put_17 : decode cX7_put 17 = .ok (.ireturn, 1) := by decide +kernel
theorem dX7_put_18 : decode cX7_put 18 = .ok (.aload_n 0, 1) := by decide +kernel
theorem dX7_put_19 : decode cX7_put 19 = .ok (.getfield 51, 3) := by decide +kernel
theorem dX7_put_22 : decode cX7_put 22 = .ok (.getfield 144, 3) := by decide +kernel
theorem dX7_put_25 : decode cX7_put 25 = .ok (.iload_n 1, 1) := by decide +kernel
theorem dX7_put_26 : decode cX7_put 26 = .ok (.iaload, 1) := by decide +kernel
theorem dX7_put_27 : decode cX7_put 27 = .ok (.istore_n 3, 1) := by decide +kernel
theorem dX7_put_28 : decode cX7_put 28 = .ok (.aload_n 0, 1) := by decide +kernel
theorem dX7_put_29 : decode cX7_put 29 = .ok (.getfield 19, 3) := by decide +kernel
theorem dX7_put_32 : decode cX7_put 32 = .ok (.iload_n 1, 1) := by decide +kernel
theorem dX7_put_33 : decode cX7_put 33 = .ok (.iload_n 3, 1) := by decide +kernel
theorem dX7_put_34 : decode cX7_put 34 = .ok (.invokevirtual 157, 3) := by decide +kernel
theorem dX7_put_37 : decode cX7_put 37 = .ok (.aload_n 0, 1) := by decide +kernel
theorem dX7_put_38 : decode cX7_put 38 = .ok (.getfield 51, 3) := by decide +kernel
theorem dX7_put_41 : decode cX7_put 41 = .ok (.getfield 144, 3) := by decide +kernel
theorem dX7_put_44 : decode cX7_put 44 = .ok (.iload_n 1, 1) := by decide +kernel
theorem dX7_put_45 : decode cX7_put 45 = .ok (.iload_n 2, 1) := by decide +kernel
theorem dX7_put_46 : decode cX7_put 46 = .ok (.iastore, 1) := by decide +kernel
theorem dX7_put_47 : decode cX7_put 47 = .ok (.iload_n 3, 1) := by decide +kernel
theorem dX7_put_48 : decode cX7_put 48 = .ok (.ireturn, 1) := by decide +kernel
theorem dX7_undo_0 : decode cX7_undo 0 = .ok (.aload_n 0, 1) := by decide +kernel
theorem dX7_undo_1 : decode cX7_undo 1 = .ok (.getfield 19, 3) := by decide +kernel
theorem dX7_undo_4 : decode cX7_undo 4 = .ok (.getfield 86, 3) := by decide +kernel
theorem dX7_undo_7 : decode cX7_undo 7 = .ok (.ifCond .ne 5, 3) := by decide +kernel
theorem dX7_undo_10 : decode cX7_undo 10 = .ok (.iconst (-1), 1) := by decide +kernel
theorem dX7_undo_11 : decode cX7_undo 11 = .ok (.ireturn, 1) := by decide +kernel
theorem dX7_undo_12 : decode cX7_undo 12 = .ok (.aload_n 0, 1) := by decide +kernel
theorem dX7_undo_13 : decode cX7_undo 13 = .ok (.getfield 19, 3) := by decide +kernel
theorem dX7_undo_16 : decode cX7_undo 16 = .ok (.invokevirtual 161, 3) := by decide +kernel
theorem dX7_undo_19 : decode cX7_undo 19 = .ok (.istore_n 1, 1) := by decide +kernel
theorem dX7_undo_20 : decode cX7_undo 20 = .ok (.aload_n 0, 1) := by decide +kernel
theorem dX7_undo_21 : decode cX7_undo 21 = .ok (.iload_n 1, 1) := by decide +kernel
theorem dX7_undo_22 : decode cX7_undo 22 = .ok (.invokevirtual 96, 3) := by decide +kernel
theorem dX7_undo_25 : decode cX7_undo 25 = .ok (.ifCond .eq 19, 3) := by decide +kernel
theorem dX7_undo_28 : decode cX7_undo 28 = .ok (.aload_n 0, 1) := by decide +kernel
theorem dX7_undo_29 : decode cX7_undo 29 = .ok (.getfield 51, 3) := by decide +kernel
theorem dX7_undo_32 : decode cX7_undo 32 = .ok (.getfield 144, 3) := by decide +kernel
theorem dX7_undo_35 : decode cX7_undo 35 = .ok (.iload_n 1, 1) := by decide +kernel
theorem dX7_undo_36 : decode cX7_undo 36 = .ok (.aload_n 0, 1) := by decide +kernel
theorem dX7_undo_37 : decode cX7_undo 37 = .ok (.getfield 19, 3) := by decide +kernel
theorem dX7_undo_40 : decode cX7_undo 40 = .ok (.invokevirtual 165, 3) := by decide +kernel
theorem dX7_undo_43 : decode cX7_undo 43 = .ok (.iastore, 1) := by decide +kernel
theorem dX7_undo_44 : decode cX7_undo 44 = .ok (.aload_n 0, 1) := by decide +kernel
theorem dX7_undo_45 : decode cX7_undo 45 = .ok (.getfield 19, 3) := by decide +kernel
theorem dX7_undo_48 : decode cX7_undo 48 = .ok (.invokevirtual 168, 3) := by decide +kernel
theorem dX7_undo_51 : decode cX7_undo 51 = .ok (.aload_n 0, 1) := by decide +kernel
theorem dX7_undo_52 : decode cX7_undo 52 = .ok (.getfield 19, 3) := by decide +kernel
theorem dX7_undo_55 : decode cX7_undo 55 = .ok (.getfield 86, 3) := by decide +kernel
theorem dX7_undo_58 : decode cX7_undo 58 = .ok (.ireturn, 1) := by decide +kernel
theorem dX7_group_0 : decode cX7_group 0 = .ok (.aload_n 0, 1) := by decide +kernel
theorem dX7_group_1 : decode cX7_group 1 = .ok (.iload_n 1, 1) := by decide +kernel
theorem dX7_group_2 : decode cX7_group 2 = .ok (.invokevirtual 171, 3) := by decide +kernel
theorem dX7_group_5 : decode cX7_group 5 = .ok (.ifCond .ne 13, 3) := by decide +kernel
theorem dX7_group_8 : decode cX7_group 8 = .ok (.new 99, 3) := by decide +kernel
theorem dX7_group_11 : decode cX7_group 11 = .ok (.dup, 1) := by decide +kernel
theorem dX7_group_12 : decode cX7_group 12 = .ok (.ldc 174, 2) := by decide +kernel
theorem dX7_group_14 : decode cX7_group 14 = .ok (.invokespecial 103, 3) := by decide +kernel
theorem dX7_group_17 : decode cX7_group 17 = .ok (.athrow, 1) := by decide +kernel
theorem dX7_group_18 : decode cX7_group 18 = .ok (.aload_n 0, 1) := by decide +kernel
theorem dX7_group_19 : decode cX7_group 19 = .ok (.iload_n 1, 1) := by decide +kernel
theorem dX7_group_20 : decode cX7_group 20 = .ok (.invokevirtual 176, 3) := by decide +kernel
theorem dX7_group_23 : decode cX7_group 23 = .ok (.iload_n 2, 1) := by decide +kernel
theorem dX7_group_24 : decode cX7_group 24 = .ok (.tableswitch 110 0 6 #[44, 54, 62, 78, 86, 94, 102], 44) := by decide +kernel
theorem dX7_group_68 : decode cX7_group 68 = .ok (.aload_n 0, 1) := by decide +kernel
theorem dX7_group_69 : decode cX7_group 69 = .ok (.getfield 51, 3) := by decide +kernel
theorem dX7_group_72 : decode cX7_group 72 = .ok (.getfield 179, 3) := by decide +kernel
theorem dX7_group_75 : decode cX7_group 75 = .ok (.iload_n 1, 1) := by decide +kernel
theorem dX7_group_76 : decode cX7_group 76 = .ok (.iaload, 1) := by decide +kernel
theorem dX7_group_77 : decode cX7_group 77 = .ok (.ireturn, 1) := by decide +kernel
theorem dX7_group_78 : decode cX7_group 78 = .ok (.aload_n 0, 1) := by decide +kernel
theorem dX7_group_79 : decode cX7_group 79 = .ok (.getfield 26, 3) := by decide +kernel
theorem dX7_group_82 : decode cX7_group 82 = .ok (.getfield 182, 3) := by decide +kernel
theorem dX7_group_85 : decode cX7_group 85 = .ok (.ireturn, 1) := by decide +kernel
theorem dX7_group_86 : decode cX7_group 86 = .ok (.aload_n 0, 1) := by decide +kernel
theorem dX7_group_87 : decode cX7_group 87 = .ok (.getfield 26, 3) := by decide +kernel
theorem dX7_group_90 : decode cX7_group 90 = .ok (.getfield 183, 3) := by decide +kernel
theorem dX7_group_93 : decode cX7_group 93 = .ok (.ifCond .eq 7, 3) := by decide +kernel
theorem dX7_group_96 : decode cX7_group 96 = .ok (.iconst 1, 1) := by decide +kernel
theorem dX7_group_97 : decode cX7_group 97 = .ok (.goto 4, 3) := by decide +kernel
theorem dX7_group_100 : decode cX7_group 100 = .ok (.iconst 0, 1) := by decide +kernel
theorem dX7_group_101 : decode cX7_group 101 = .ok (.ireturn, 1) := by decide +kernel
theorem dX7_group_102 : decode cX7_group 102 = .ok (.aload_n 0, 1) := by decide +kernel
theorem dX7_group_103 : decode cX7_group 103 = .ok (.getfield 26, 3) := by decide +kernel
theorem dX7_group_106 : decode cX7_group 106 = .ok (.getfield 187, 3) := by decide +kernel
theorem dX7_group_109 : decode cX7_group 109 = .ok (.ireturn, 1) := by decide +kernel
theorem dX7_group_110 : decode cX7_group 110 = .ok (.aload_n 0, 1) := by decide +kernel
theorem dX7_group_111 : decode cX7_group 111 = .ok (.getfield 26, 3) := by decide +kernel
theorem dX7_group_114 : decode cX7_group 114 = .ok (.invokevirtual 190, 3) := by decide +kernel
theorem dX7_group_117 : decode cX7_group 117 = .ok (.ireturn, 1) := by decide +kernel
theorem dX7_group_118 : decode cX7_group 118 = .ok (.aload_n 0, 1) := by decide +kernel
theorem dX7_group_119 : decode cX7_group 119 = .ok (.getfield 26, 3) := by decide +kernel
theorem dX7_group_122 : decode cX7_group 122 = .ok (.invokevirtual 193, 3) := by decide +kernel
theorem dX7_group_125 : decode cX7_group 125 = .ok (.ireturn, 1) := by decide +kernel
theorem dX7_group_126 : decode cX7_group 126 = .ok (.aload_n 0, 1) := by decide +kernel
theorem dX7_group_127 : decode cX7_group 127 = .ok (.getfield 26, 3) := by decide +kernel
theorem dX7_group_130 : decode cX7_group 130 = .ok (.invokevirtual 196, 3) := by decide +kernel
theorem dX7_group_133 : decode cX7_group 133 = .ok (.ireturn, 1) := by decide +kernel
theorem dX7_group_134 : decode cX7_group 134 = .ok (.new 136, 3) := by decide +kernel
theorem dX7_group_137 : decode cX7_group 137 = .ok (.dup, 1) := by decide +kernel
theorem dX7_group_138 : decode cX7_group 138 = .ok (.ldc 138, 2) := by decide +kernel
theorem dX7_group_140 : decode cX7_group 140 = .ok (.invokespecial 140, 3) := by decide +kernel
theorem dX7_group_143 : decode cX7_group 143 = .ok (.athrow, 1) := by decide +kernel
theorem dX7_ugliness_0 : decode cX7_ugliness 0 = .ok (.aload_n 0, 1) := by decide +kernel
theorem dX7_ugliness_1 : decode cX7_ugliness 1 = .ok (.iload_n 1, 1) := by decide +kernel
theorem dX7_ugliness_2 : decode cX7_ugliness 2 = .ok (.invokevirtual 171, 3) := by decide +kernel
theorem dX7_ugliness_5 : decode cX7_ugliness 5 = .ok (.ifCond .eq 22, 3) := by decide +kernel
theorem dX7_ugliness_8 : decode cX7_ugliness 8 = .ok (.iload_n 2, 1) := by decide +kernel
theorem dX7_ugliness_9 : decode cX7_ugliness 9 = .ok (.iload_n 3, 1) := by decide +kernel
theorem dX7_ugliness_10 : decode cX7_ugliness 10 = .ok (.invokestatic 205, 3) := by decide +kernel
theorem dX7_ugliness_13 : decode cX7_ugliness 13 = .ok (.ifCond .eq 14, 3) := by decide +kernel
theorem dX7_ugliness_16 : decode cX7_ugliness 16 = .ok (.iload 4, 2) := by decide +kernel
theorem dX7_ugliness_18 : decode cX7_ugliness 18 = .ok (.ifCond .lt 9, 3) := by decide +kernel
theorem dX7_ugliness_21 : decode cX7_ugliness 21 = .ok (.iload 4, 2) := by decide +kernel
theorem dX7_ugliness_23 : decode cX7_ugliness 23 = .ok (.iconst 3, 1) := by decide +kernel
theorem dX7_ugliness_24 : decode cX7_ugliness 24 = .ok (.if_icmp .le 5, 3) := by decide +kernel
theorem dX7_ugliness_27 : decode cX7_ugliness 27 = .ok (.iconst (-1), 1) := by decide +kernel
theorem dX7_ugliness_28 : decode cX7_ugliness 28 = .ok (.ireturn, 1) := by decide +kernel
theorem dX7_ugliness_29 : decode cX7_ugliness 29 = .ok (.aload_n 0, 1) := by decide +kernel
theorem dX7_ugliness_30 : decode cX7_ugliness 30 = .ok (.iload_n 1, 1) := by decide +kernel
theorem dX7_ugliness_31 : decode cX7_ugliness 31 = .ok (.invokevirtual 176, 3) := by decide +kernel
theorem dX7_ugliness_34 : decode cX7_ugliness 34 = .ok (.aload_n 0, 1) := by decide +kernel
theorem dX7_ugliness_35 : decode cX7_ugliness 35 = .ok (.getfield 26, 3) := by decide +kernel
theorem dX7_ugliness_38 : decode cX7_ugliness 38 = .ok (.iload_n 2, 1) := by decide +kernel
theorem dX7_ugliness_39 : decode cX7_ugliness 39 = .ok (.iload_n 3, 1) := by decide +kernel
theorem dX7_ugliness_40 : decode cX7_ugliness 40 = .ok (.invokevirtual 209, 3) := by decide +kernel
theorem dX7_ugliness_43 : decode cX7_ugliness 43 = .ok (.ifCond .eq 19, 3) := by decide +kernel
theorem dX7_ugliness_46 : decode cX7_ugliness 46 = .ok (.aload_n 0, 1) := by decide +kernel
theorem dX7_ugliness_47 : decode cX7_ugliness 47 = .ok (.getfield 26, 3) := by decide +kernel
theorem dX7_ugliness_50 : decode cX7_ugliness 50 = .ok (.iload_n 2, 1) := by decide +kernel
theorem dX7_ugliness_51 : decode cX7_ugliness 51 = .ok (.iload_n 3, 1) := by decide +kernel
theorem dX7_ugliness_52 : decode cX7_ugliness 52 = .ok (.iload 4, 2) := by decide +kernel
theorem dX7_ugliness_54 : decode cX7_ugliness 54 = .ok (.iconst 2, 1) := by decide +kernel
theorem dX7_ugliness_55 : decode cX7_ugliness 55 = .ok (.iadd, 1) := by decide +kernel
theorem dX7_ugliness_56 : decode cX7_ugliness 56 = .ok (.invokevirtual 212, 3) := by decide +kernel
theorem dX7_ugliness_59 : decode cX7_ugliness 59 = .ok (.goto 5, 3) := by decide +kernel
theorem dX7_ugliness_62 : decode cX7_ugliness 62 = .ok (.bipush (-2), 2) := by decide +kernel
theorem dX7_ugliness_64 : decode cX7_ugliness 64 = .ok (.ireturn, 1) := by decide +kernel
theorem dX7_best_0 : decode cX7_best 0 = .ok (.aload_n 0, 1) := by decide +kernel
theorem dX7_best_1 : decode cX7_best 1 = .ok (.iload_n 1, 1) := by decide +kernel
theorem dX7_best_2 : decode cX7_best 2 = .ok (.invokevirtual 171, 3) := by decide +kernel
theorem dX7_best_5 : decode cX7_best 5 = .ok (.ifCond .ne 6, 3) := by decide +kernel
theorem dX7_best_8 : decode cX7_best 8 = .ok (.ldc 147, 2) := by decide +kernel
theorem dX7_best_10 : decode cX7_best 10 = .ok (.ireturn, 1) := by decide +kernel
theorem dX7_best_11 : decode cX7_best 11 = .ok (.aload_n 0, 1) := by decide +kernel
theorem dX7_best_12 : decode cX7_best 12 = .ok (.iload_n 1, 1) := by decide +kernel
theorem dX7_best_13 : decode cX7_best 13 = .ok (.invokevirtual 176, 3) := by decide +kernel
theorem dX7_best_16 : decode cX7_best 16 = .ok (.aload_n 0, 1) := by decide +kernel
theorem dX7_best_17 : decode cX7_best 17 = .ok (.iload_n 2, 1) := by decide +kernel
theorem dX7_best_18 : decode cX7_best 18 = .ok (.invokevirtual 216, 3) := by decide +kernel
theorem dX7_best_21 : decode cX7_best 21 = .ok (.ireturn, 1) := by decide +kernel
theorem dX7_ranked_0 : decode cX7_ranked 0 = .ok (.aload_n 0, 1) := by decide +kernel
theorem dX7_ranked_1 : decode cX7_ranked 1 = .ok (.iload_n 1, 1) := by decide +kernel
theorem dX7_ranked_2 : decode cX7_ranked 2 = .ok (.invokevirtual 171, 3) := by decide +kernel
theorem dX7_ranked_5 : decode cX7_ranked 5 = .ok (.ifCond .eq 16, 3) := by decide +kernel
theorem dX7_ranked_8 : decode cX7_ranked 8 = .ok (.iload_n 2, 1) := by decide +kernel
theorem dX7_ranked_9 : decode cX7_ranked 9 = .ok (.ifCond .lt 12, 3) := by decide +kernel
theorem dX7_ranked_12 : decode cX7_ranked 12 = .ok (.iload_n 3, 1) := by decide +kernel
theorem dX7_ranked_13 : decode cX7_ranked 13 = .ok (.ifCond .lt 8, 3) := by decide +kernel
theorem dX7_ranked_16 : decode cX7_ranked 16 = .ok (.iload_n 3, 1) := by decide +kernel
theorem dX7_ranked_17 : decode cX7_ranked 17 = .ok (.iconst 5, 1) := by decide +kernel
theorem dX7_ranked_18 : decode cX7_ranked 18 = .ok (.if_icmp .le 6, 3) := by decide +kernel
theorem dX7_ranked_21 : decode cX7_ranked 21 = .ok (.ldc 147, 2) := by decide +kernel
theorem dX7_ranked_23 : decode cX7_ranked 23 = .ok (.ireturn, 1) := by decide +kernel
theorem dX7_ranked_24 : decode cX7_ranked 24 = .ok (.aload_n 0, 1) := by decide +kernel
theorem dX7_ranked_25 : decode cX7_ranked 25 = .ok (.iload_n 1, 1) := by decide +kernel
theorem dX7_ranked_26 : decode cX7_ranked 26 = .ok (.invokevirtual 176, 3) := by decide +kernel
theorem dX7_ranked_29 : decode cX7_ranked 29 = .ok (.iload_n 2, 1) := by decide +kernel
theorem dX7_ranked_30 : decode cX7_ranked 30 = .ok (.aload_n 0, 1) := by decide +kernel
theorem dX7_ranked_31 : decode cX7_ranked 31 = .ok (.getfield 26, 3) := by decide +kernel
theorem dX7_ranked_34 : decode cX7_ranked 34 = .ok (.invokevirtual 193, 3) := by decide +kernel
theorem dX7_ranked_37 : decode cX7_ranked 37 = .ok (.if_icmp .lt 6, 3) := by decide +kernel
theorem dX7_ranked_40 : decode cX7_ranked 40 = .ok (.ldc 147, 2) := by decide +kernel
theorem dX7_ranked_42 : decode cX7_ranked 42 = .ok (.ireturn, 1) := by decide +kernel
theorem dX7_ranked_43 : decode cX7_ranked 43 = .ok (.aload_n 0, 1) := by decide +kernel
theorem dX7_ranked_44 : decode cX7_ranked 44 = .ok (.getfield 26, 3) := by decide +kernel
theorem dX7_ranked_47 : decode cX7_ranked 47 = .ok (.invokevirtual 219, 3) := by decide +kernel
theorem dX7_ranked_50 : decode cX7_ranked 50 = .ok (.aload_n 0, 1) := by decide +kernel
theorem dX7_ranked_51 : decode cX7_ranked 51 = .ok (.getfield 26, 3) := by decide +kernel
theorem dX7_ranked_54 : decode cX7_ranked 54 = .ok (.aload_n 0, 1) := by decide +kernel
theorem dX7_ranked_55 : decode cX7_ranked 55 = .ok (.getfield 26, 3) := by decide +kernel
theorem dX7_ranked_58 : decode cX7_ranked 58 = .ok (.getfield 222, 3) := by decide +kernel
theorem dX7_ranked_61 : decode cX7_ranked 61 = .ok (.iload_n 2, 1) := by decide +kernel
theorem dX7_ranked_62 : decode cX7_ranked 62 = .ok (.laload, 1) := by decide +kernel
theorem dX7_ranked_63 : decode cX7_ranked 63 = .ok (.iload_n 3, 1) := by decide +kernel
theorem dX7_ranked_64 : decode cX7_ranked 64 = .ok (.invokevirtual 226, 3) := by decide +kernel
theorem dX7_ranked_67 : decode cX7_ranked 67 = .ok (.ireturn, 1) := by decide +kernel
theorem dX7_rank_0 : decode cX7_rank 0 = .ok (.aload_n 0, 1) := by decide +kernel
theorem dX7_rank_1 : decode cX7_rank 1 = .ok (.iload_n 1, 1) := by decide +kernel
theorem dX7_rank_2 : decode cX7_rank 2 = .ok (.invokevirtual 171, 3) := by decide +kernel
theorem dX7_rank_5 : decode cX7_rank 5 = .ok (.ifCond .eq 11, 3) := by decide +kernel
theorem dX7_rank_8 : decode cX7_rank 8 = .ok (.iload_n 2, 1) := by decide +kernel
theorem dX7_rank_9 : decode cX7_rank 9 = .ok (.iload_n 3, 1) := by decide +kernel
theorem dX7_rank_10 : decode cX7_rank 10 = .ok (.invokestatic 205, 3) := by decide +kernel
theorem dX7_rank_13 : decode cX7_rank 13 = .ok (.ifCond .ne 5, 3) := by decide +kernel
theorem dX7_rank_16 : decode cX7_rank 16 = .ok (.iconst (-1), 1) := by decide +kernel
theorem dX7_rank_17 : decode cX7_rank 17 = .ok (.ireturn, 1) := by decide +kernel
theorem dX7_rank_18 : decode cX7_rank 18 = .ok (.aload_n 0, 1) := by decide +kernel
theorem dX7_rank_19 : decode cX7_rank 19 = .ok (.iload_n 1, 1) := by decide +kernel
theorem dX7_rank_20 : decode cX7_rank 20 = .ok (.invokevirtual 176, 3) := by decide +kernel
theorem dX7_rank_23 : decode cX7_rank 23 = .ok (.aload_n 0, 1) := by decide +kernel
theorem dX7_rank_24 : decode cX7_rank 24 = .ok (.getfield 26, 3) := by decide +kernel
theorem dX7_rank_27 : decode cX7_rank 27 = .ok (.iload_n 2, 1) := by decide +kernel
theorem dX7_rank_28 : decode cX7_rank 28 = .ok (.iload_n 3, 1) := by decide +kernel
theorem dX7_rank_29 : decode cX7_rank 29 = .ok (.invokevirtual 209, 3) := by decide +kernel
theorem dX7_rank_32 : decode cX7_rank 32 = .ok (.ifCond .eq 22, 3) := by decide +kernel
theorem dX7_rank_35 : decode cX7_rank 35 = .ok (.aload_n 0, 1) := by decide +kernel
theorem dX7_rank_36 : decode cX7_rank 36 = .ok (.getfield 26, 3) := by decide +kernel
theorem dX7_rank_39 : decode cX7_rank 39 = .ok (.aload_n 0, 1) := by decide +kernel
theorem dX7_rank_40 : decode cX7_rank 40 = .ok (.getfield 26, 3) := by decide +kernel
theorem dX7_rank_43 : decode cX7_rank 43 = .ok (.iload_n 2, 1) := by decide +kernel
theorem dX7_rank_44 : decode cX7_rank 44 = .ok (.iload_n 3, 1) := by decide +kernel
theorem dX7_rank_45 : decode cX7_rank 45 = .ok (.invokevirtual 230, 3) := by decide +kernel
theorem dX7_rank_48 : decode cX7_rank 48 = .ok (.invokevirtual 234, 3) := by decide +kernel
theorem dX7_rank_51 : decode cX7_rank 51 = .ok (.goto 5, 3) := by decide +kernel
theorem dX7_rank_54 : decode cX7_rank 54 = .ok (.bipush (-2), 2) := by decide +kernel
theorem dX7_rank_56 : decode cX7_rank 56 = .ok (.ireturn, 1) := by decide +kernel
theorem dX7_total_0 : decode cX7_total 0 = .ok (.iload_n 1, 1) := by decide +kernel
theorem dX7_total_1 : decode cX7_total 1 = .ok (.invokestatic 291, 3) := by decide +kernel
theorem dX7_total_4 : decode cX7_total 4 = .ok (.ifCond .ne 5, 3) := by decide +kernel
theorem dX7_total_7 : decode cX7_total 7 = .ok (.iconst (-1), 1) := by decide +kernel
theorem dX7_total_8 : decode cX7_total 8 = .ok (.ireturn, 1) := by decide +kernel
theorem dX7_total_9 : decode cX7_total 9 = .ok (.aload_n 0, 1) := by decide +kernel
theorem dX7_total_10 : decode cX7_total 10 = .ok (.getfield 33, 3) := by decide +kernel
theorem dX7_total_13 : decode cX7_total 13 = .ok (.aload_n 0, 1) := by decide +kernel
theorem dX7_total_14 : decode cX7_total 14 = .ok (.getfield 51, 3) := by decide +kernel
theorem dX7_total_17 : decode cX7_total 17 = .ok (.aload_n 0, 1) := by decide +kernel
theorem dX7_total_18 : decode cX7_total 18 = .ok (.getfield 51, 3) := by decide +kernel
theorem dX7_total_21 : decode cX7_total 21 = .ok (.getfield 144, 3) := by decide +kernel
theorem dX7_total_24 : decode cX7_total 24 = .ok (.aload_n 0, 1) := by decide +kernel
theorem dX7_total_25 : decode cX7_total 25 = .ok (.getfield 51, 3) := by decide +kernel
theorem dX7_total_28 : decode cX7_total 28 = .ok (.getfield 294, 3) := by decide +kernel
theorem dX7_total_31 : decode cX7_total 31 = .ok (.aload_n 0, 1) := by decide +kernel
theorem dX7_total_32 : decode cX7_total 32 = .ok (.getfield 26, 3) := by decide +kernel
theorem dX7_total_35 : decode cX7_total 35 = .ok (.invokevirtual 297, 3) := by decide +kernel
theorem dX7_total_38 : decode cX7_total 38 = .ok (.aload_n 0, 1) := by decide +kernel
theorem dX7_total_39 : decode cX7_total 39 = .ok (.getfield 33, 3) := by decide +kernel
theorem dX7_total_42 : decode cX7_total 42 = .ok (.iload_n 1, 1) := by decide +kernel
theorem dX7_total_43 : decode cX7_total 43 = .ok (.invokevirtual 301, 3) := by decide +kernel
theorem dX7_total_46 : decode cX7_total 46 = .ok (.ireturn, 1) := by decide +kernel
theorem dX7_ifPut_0 : decode cX7_ifPut 0 = .ok (.aload_n 0, 1) := by decide +kernel
theorem dX7_ifPut_1 : decode cX7_ifPut 1 = .ok (.iload_n 1, 1) := by decide +kernel
theorem dX7_ifPut_2 : decode cX7_ifPut 2 = .ok (.invokevirtual 127, 3) := by decide +kernel
theorem dX7_ifPut_5 : decode cX7_ifPut 5 = .ok (.ifCond .eq 10, 3) := by decide +kernel
theorem dX7_ifPut_8 : decode cX7_ifPut 8 = .ok (.iload_n 2, 1) := by decide +kernel
theorem dX7_ifPut_9 : decode cX7_ifPut 9 = .ok (.invokestatic 154, 3) := by decide +kernel
theorem dX7_ifPut_12 : decode cX7_ifPut 12 = .ok (.ifCond .ne 6, 3) := by decide +kernel
theorem dX7_ifPut_15 : decode cX7_ifPut 15 = .ok (.ldc 147, 2) := by decide +kernel
theorem dX7_ifPut_17 : decode cX7_ifPut 17 = .ok (.ireturn, 1) := by decide +kernel
theorem dX7_ifPut_18 : decode cX7_ifPut 18 = .ok (.aload_n 0, 1) := by decide +kernel
theorem dX7_ifPut_19 : decode cX7_ifPut 19 = .ok (.iconst 0, 1) := by decide +kernel
theorem dX7_ifPut_20 : decode cX7_ifPut 20 = .ok (.invokevirtual 303, 3) := by decide +kernel
theorem dX7_ifPut_23 : decode cX7_ifPut 23 = .ok (.pop, 1) := by decide +kernel
theorem dX7_ifPut_24 : decode cX7_ifPut 24 = .ok (.aload_n 0, 1) := by decide +kernel
theorem dX7_ifPut_25 : decode cX7_ifPut 25 = .ok (.getfield 46, 3) := by decide +kernel
theorem dX7_ifPut_28 : decode cX7_ifPut 28 = .ok (.iload_n 1, 1) := by decide +kernel
theorem dX7_ifPut_29 : decode cX7_ifPut 29 = .ok (.iload_n 2, 1) := by decide +kernel
theorem dX7_ifPut_30 : decode cX7_ifPut 30 = .ok (.iastore, 1) := by decide +kernel
theorem dX7_ifPut_31 : decode cX7_ifPut 31 = .ok (.aload_n 0, 1) := by decide +kernel
theorem dX7_ifPut_32 : decode cX7_ifPut 32 = .ok (.aload_n 0, 1) := by decide +kernel
theorem dX7_ifPut_33 : decode cX7_ifPut 33 = .ok (.getfield 51, 3) := by decide +kernel
theorem dX7_ifPut_36 : decode cX7_ifPut 36 = .ok (.getfield 130, 3) := by decide +kernel
theorem dX7_ifPut_39 : decode cX7_ifPut 39 = .ok (.iload_n 1, 1) := by decide +kernel
theorem dX7_ifPut_40 : decode cX7_ifPut 40 = .ok (.iaload, 1) := by decide +kernel
theorem dX7_ifPut_41 : decode cX7_ifPut 41 = .ok (.invokevirtual 306, 3) := by decide +kernel
theorem dX7_ifPut_44 : decode cX7_ifPut 44 = .ok (.aload_n 0, 1) := by decide +kernel
theorem dX7_ifPut_45 : decode cX7_ifPut 45 = .ok (.iload_n 3, 1) := by decide +kernel
theorem dX7_ifPut_46 : decode cX7_ifPut 46 = .ok (.invokevirtual 216, 3) := by decide +kernel
theorem dX7_ifPut_49 : decode cX7_ifPut 49 = .ok (.ireturn, 1) := by decide +kernel
theorem dX7_alone_0 : decode cX7_alone 0 = .ok (.iload_n 1, 1) := by decide +kernel
theorem dX7_alone_1 : decode cX7_alone 1 = .ok (.ifCond .lt 8, 3) := by decide +kernel
theorem dX7_alone_4 : decode cX7_alone 4 = .ok (.iload_n 1, 1) := by decide +kernel
theorem dX7_alone_5 : decode cX7_alone 5 = .ok (.iconst 1, 1) := by decide +kernel
theorem dX7_alone_6 : decode cX7_alone 6 = .ok (.if_icmp .le 5, 3) := by decide +kernel
theorem dX7_alone_9 : decode cX7_alone 9 = .ok (.iconst (-1), 1) := by decide +kernel
theorem dX7_alone_10 : decode cX7_alone 10 = .ok (.ireturn, 1) := by decide +kernel
theorem dX7_alone_11 : decode cX7_alone 11 = .ok (.iconst 0, 1) := by decide +kernel
theorem dX7_alone_12 : decode cX7_alone 12 = .ok (.istore_n 2, 1) := by decide +kernel
theorem dX7_alone_13 : decode cX7_alone 13 = .ok (.bipush (-2), 2) := by decide +kernel
theorem dX7_alone_15 : decode cX7_alone 15 = .ok (.istore_n 3, 1) := by decide +kernel
theorem dX7_alone_16 : decode cX7_alone 16 = .ok (.iconst 0, 1) := by decide +kernel
theorem dX7_alone_17 : decode cX7_alone 17 = .ok (.istore 4, 2) := by decide +kernel
theorem dX7_alone_19 : decode cX7_alone 19 = .ok (.iload 4, 2) := by decide +kernel
theorem dX7_alone_21 : decode cX7_alone 21 = .ok (.aload_n 0, 1) := by decide +kernel
theorem dX7_alone_22 : decode cX7_alone 22 = .ok (.getfield 51, 3) := by decide +kernel
theorem dX7_alone_25 : decode cX7_alone 25 = .ok (.getfield 322, 3) := by decide +kernel
theorem dX7_alone_28 : decode cX7_alone 28 = .ok (.if_icmp .ge 45, 3) := by decide +kernel
theorem dX7_alone_31 : decode cX7_alone 31 = .ok (.aload_n 0, 1) := by decide +kernel
theorem dX7_alone_32 : decode cX7_alone 32 = .ok (.getfield 51, 3) := by decide +kernel
theorem dX7_alone_35 : decode cX7_alone 35 = .ok (.iload 4, 2) := by decide +kernel
theorem dX7_alone_37 : decode cX7_alone 37 = .ok (.invokevirtual 133, 3) := by decide +kernel
theorem dX7_alone_40 : decode cX7_alone 40 = .ok (.ifCond .le 27, 3) := by decide +kernel
theorem dX7_alone_43 : decode cX7_alone 43 = .ok (.aload_n 0, 1) := by decide +kernel
theorem dX7_alone_44 : decode cX7_alone 44 = .ok (.iload 4, 2) := by decide +kernel
theorem dX7_alone_46 : decode cX7_alone 46 = .ok (.invokevirtual 127, 3) := by decide +kernel
theorem dX7_alone_49 : decode cX7_alone 49 = .ok (.ifCond .ne 18, 3) := by decide +kernel
theorem dX7_alone_52 : decode cX7_alone 52 = .ok (.iinc 2 1, 3) := by decide +kernel
theorem dX7_alone_55 : decode cX7_alone 55 = .ok (.iload_n 2, 1) := by decide +kernel
theorem dX7_alone_56 : decode cX7_alone 56 = .ok (.iconst 1, 1) := by decide +kernel
theorem dX7_alone_57 : decode cX7_alone 57 = .ok (.if_icmp .ne 8, 3) := by decide +kernel
theorem dX7_alone_60 : decode cX7_alone 60 = .ok (.iload 4, 2) := by decide +kernel
theorem dX7_alone_62 : decode cX7_alone 62 = .ok (.goto 4, 3) := by decide +kernel
theorem dX7_alone_65 : decode cX7_alone 65 = .ok (.iload_n 3, 1) := by decide +kernel
theorem dX7_alone_66 : decode cX7_alone 66 = .ok (.istore_n 3, 1) := by decide +kernel
theorem dX7_alone_67 : decode cX7_alone 67 = .ok (.iinc 4 1, 3) := by decide +kernel
theorem dX7_alone_70 : decode cX7_alone 70 = .ok (.goto (-51), 3) := by decide +kernel
theorem dX7_alone_73 : decode cX7_alone 73 = .ok (.iload_n 1, 1) := by decide +kernel
theorem dX7_alone_74 : decode cX7_alone 74 = .ok (.ifCond .ne 7, 3) := by decide +kernel
theorem dX7_alone_77 : decode cX7_alone 77 = .ok (.iload_n 2, 1) := by decide +kernel
theorem dX7_alone_78 : decode cX7_alone 78 = .ok (.goto 4, 3) := by decide +kernel
theorem dX7_alone_81 : decode cX7_alone 81 = .ok (.iload_n 3, 1) := by decide +kernel
theorem dX7_alone_82 : decode cX7_alone 82 = .ok (.ireturn, 1) := by decide +kernel
theorem dX7_count_0 : decode cX7_count 0 = .ok (.iload_n 1, 1) := by decide +kernel
theorem dX7_count_1 : decode cX7_count 1 = .ok (.tableswitch 203 0 14 #[75, 83, 91, 99, 107, 115, 123, 131, 139, 147, 155, 163, 173, 183, 193], 75) := by decide +kernel
theorem dX7_count_76 : decode cX7_count 76 = .ok (.aload_n 0, 1) := by decide +kernel
theorem dX7_count_77 : decode cX7_count 77 = .ok (.getfield 51, 3) := by decide +kernel
theorem dX7_count_80 : decode cX7_count 80 = .ok (.getfield 87, 3) := by decide +kernel
theorem dX7_count_83 : decode cX7_count 83 = .ok (.ireturn, 1) := by decide +kernel
theorem dX7_count_84 : decode cX7_count 84 = .ok (.aload_n 0, 1) := by decide +kernel
theorem dX7_count_85 : decode cX7_count 85 = .ok (.getfield 51, 3) := by decide +kernel
theorem dX7_count_88 : decode cX7_count 88 = .ok (.getfield 322, 3) := by decide +kernel
theorem dX7_count_91 : decode cX7_count 91 = .ok (.ireturn, 1) := by decide +kernel
theorem dX7_count_92 : decode cX7_count 92 = .ok (.aload_n 0, 1) := by decide +kernel
theorem dX7_count_93 : decode cX7_count 93 = .ok (.getfield 51, 3) := by decide +kernel
theorem dX7_count_96 : decode cX7_count 96 = .ok (.invokevirtual 364, 3) := by decide +kernel
theorem dX7_count_99 : decode cX7_count 99 = .ok (.ireturn, 1) := by decide +kernel
theorem dX7_count_100 : decode cX7_count 100 = .ok (.aload_n 0, 1) := by decide +kernel
theorem dX7_count_101 : decode cX7_count 101 = .ok (.getfield 51, 3) := by decide +kernel
theorem dX7_count_104 : decode cX7_count 104 = .ok (.getfield 316, 3) := by decide +kernel
theorem dX7_count_107 : decode cX7_count 107 = .ok (.ireturn, 1) := by decide +kernel
theorem dX7_count_108 : decode cX7_count 108 = .ok (.aload_n 0, 1) := by decide +kernel
theorem dX7_count_109 : decode cX7_count 109 = .ok (.getfield 51, 3) := by decide +kernel
theorem dX7_count_112 : decode cX7_count 112 = .ok (.invokevirtual 367, 3) := by decide +kernel
theorem dX7_count_115 : decode cX7_count 115 = .ok (.ireturn, 1) := by decide +kernel
theorem dX7_count_116 : decode cX7_count 116 = .ok (.aload_n 0, 1) := by decide +kernel
theorem dX7_count_117 : decode cX7_count 117 = .ok (.getfield 51, 3) := by decide +kernel
theorem dX7_count_120 : decode cX7_count 120 = .ok (.getfield 370, 3) := by decide +kernel
theorem dX7_count_123 : decode cX7_count 123 = .ok (.ireturn, 1) := by decide +kernel
theorem dX7_count_124 : decode cX7_count 124 = .ok (.aload_n 0, 1) := by decide +kernel
theorem dX7_count_125 : decode cX7_count 125 = .ok (.getfield 51, 3) := by decide +kernel
theorem dX7_count_128 : decode cX7_count 128 = .ok (.getfield 373, 3) := by decide +kernel
theorem dX7_count_131 : decode cX7_count 131 = .ok (.ireturn, 1) := by decide +kernel
theorem dX7_count_132 : decode cX7_count 132 = .ok (.aload_n 0, 1) := by decide +kernel
theorem dX7_count_133 : decode cX7_count 133 = .ok (.getfield 51, 3) := by decide +kernel
theorem dX7_count_136 : decode cX7_count 136 = .ok (.getfield 294, 3) := by decide +kernel
theorem dX7_count_139 : decode cX7_count 139 = .ok (.ireturn, 1) := by decide +kernel
theorem dX7_count_140 : decode cX7_count 140 = .ok (.aload_n 0, 1) := by decide +kernel
theorem dX7_count_141 : decode cX7_count 141 = .ok (.getfield 51, 3) := by decide +kernel
theorem dX7_count_144 : decode cX7_count 144 = .ok (.getfield 376, 3) := by decide +kernel
theorem dX7_count_147 : decode cX7_count 147 = .ok (.ireturn, 1) := by decide +kernel
theorem dX7_count_148 : decode cX7_count 148 = .ok (.aload_n 0, 1) := by decide +kernel
theorem dX7_count_149 : decode cX7_count 149 = .ok (.getfield 19, 3) := by decide +kernel
theorem dX7_count_152 : decode cX7_count 152 = .ok (.getfield 86, 3) := by decide +kernel
theorem dX7_count_155 : decode cX7_count 155 = .ok (.ireturn, 1) := by decide +kernel
theorem dX7_count_156 : decode cX7_count 156 = .ok (.aload_n 0, 1) := by decide +kernel
theorem dX7_count_157 : decode cX7_count 157 = .ok (.getfield 10, 3) := by decide +kernel
theorem dX7_count_160 : decode cX7_count 160 = .ok (.getfield 78, 3) := by decide +kernel
theorem dX7_count_163 : decode cX7_count 163 = .ok (.ireturn, 1) := by decide +kernel
theorem dX7_count_164 : decode cX7_count 164 = .ok (.aload_n 0, 1) := by decide +kernel
theorem dX7_count_165 : decode cX7_count 165 = .ok (.getfield 51, 3) := by decide +kernel
theorem dX7_count_168 : decode cX7_count 168 = .ok (.getfield 379, 3) := by decide +kernel
theorem dX7_count_171 : decode cX7_count 171 = .ok (.iconst 0, 1) := by decide +kernel
theorem dX7_count_172 : decode cX7_count 172 = .ok (.iaload, 1) := by decide +kernel
theorem dX7_count_173 : decode cX7_count 173 = .ok (.ireturn, 1) := by decide +kernel
theorem dX7_count_174 : decode cX7_count 174 = .ok (.aload_n 0, 1) := by decide +kernel
theorem dX7_count_175 : decode cX7_count 175 = .ok (.getfield 51, 3) := by decide +kernel
theorem dX7_count_178 : decode cX7_count 178 = .ok (.getfield 379, 3) := by decide +kernel
theorem dX7_count_181 : decode cX7_count 181 = .ok (.iconst 1, 1) := by decide +kernel
theorem dX7_count_182 : decode cX7_count 182 = .ok (.iaload, 1) := by decide +kernel
theorem dX7_count_183 : decode cX7_count 183 = .ok (.ireturn, 1) := by decide +kernel
theorem dX7_count_184 : decode cX7_count 184 = .ok (.aload_n 0, 1) := by decide +kernel
theorem dX7_count_185 : decode cX7_count 185 = .ok (.getfield 51, 3) := by decide +kernel
theorem dX7_count_188 : decode cX7_count 188 = .ok (.getfield 379, 3) := by decide +kernel
theorem dX7_count_191 : decode cX7_count 191 = .ok (.iconst 2, 1) := by decide +kernel
theorem dX7_count_192 : decode cX7_count 192 = .ok (.iaload, 1) := by decide +kernel
theorem dX7_count_193 : decode cX7_count 193 = .ok (.ireturn, 1) := by decide +kernel
theorem dX7_count_194 : decode cX7_count 194 = .ok (.aload_n 0, 1) := by decide +kernel
theorem dX7_count_195 : decode cX7_count 195 = .ok (.getfield 51, 3) := by decide +kernel
theorem dX7_count_198 : decode cX7_count 198 = .ok (.getfield 379, 3) := by decide +kernel
theorem dX7_count_201 : decode cX7_count 201 = .ok (.iconst 3, 1) := by decide +kernel
theorem dX7_count_202 : decode cX7_count 202 = .ok (.iaload, 1) := by decide +kernel
theorem dX7_count_203 : decode cX7_count 203 = .ok (.ireturn, 1) := by decide +kernel
theorem dX7_count_204 : decode cX7_count 204 = .ok (.iconst (-1), 1) := by decide +kernel
theorem dX7_count_205 : decode cX7_count 205 = .ok (.ireturn, 1) := by decide +kernel
theorem dX7_isElement_0 : decode cX7_isElement 0 = .ok (.iload_n 1, 1) := by decide +kernel
theorem dX7_isElement_1 : decode cX7_isElement 1 = .ok (.ifCond .lt 18, 3) := by decide +kernel
theorem dX7_isElement_4 : decode cX7_isElement 4 = .ok (.iload_n 1, 1) := by decide +kernel
theorem dX7_isElement_5 : decode cX7_isElement 5 = .ok (.aload_n 0, 1) := by decide +kernel
theorem dX7_isElement_6 : decode cX7_isElement 6 = .ok (.getfield 51, 3) := by decide +kernel
theorem dX7_isElement_9 : decode cX7_isElement 9 = .ok (.getfield 322, 3) := by decide +kernel
theorem dX7_isElement_12 : decode cX7_isElement 12 = .ok (.if_icmp .ge 7, 3) := by decide +kernel
theorem dX7_isElement_15 : decode cX7_isElement 15 = .ok (.iconst 1, 1) := by decide +kernel
theorem dX7_isElement_16 : decode cX7_isElement 16 = .ok (.goto 4, 3) := by decide +kernel
theorem dX7_isElement_19 : decode cX7_isElement 19 = .ok (.iconst 0, 1) := by decide +kernel
theorem dX7_isElement_20 : decode cX7_isElement 20 = .ok (.ireturn, 1) := by decide +kernel
theorem dX7_isNote_0 : decode cX7_isNote 0 = .ok (.aload_n 0, 1) := by decide +kernel
theorem dX7_isNote_1 : decode cX7_isNote 1 = .ok (.iload_n 1, 1) := by decide +kernel
theorem dX7_isNote_2 : decode cX7_isNote 2 = .ok (.invokevirtual 96, 3) := by decide +kernel
theorem dX7_isNote_5 : decode cX7_isNote 5 = .ok (.ifCond .eq 19, 3) := by decide +kernel
theorem dX7_isNote_8 : decode cX7_isNote 8 = .ok (.aload_n 0, 1) := by decide +kernel
theorem dX7_isNote_9 : decode cX7_isNote 9 = .ok (.getfield 51, 3) := by decide +kernel
theorem dX7_isNote_12 : decode cX7_isNote 12 = .ok (.getfield 109, 3) := by decide +kernel
theorem dX7_isNote_15 : decode cX7_isNote 15 = .ok (.iload_n 1, 1) := by decide +kernel
theorem dX7_isNote_16 : decode cX7_isNote 16 = .ok (.baload, 1) := by decide +kernel
theorem dX7_isNote_17 : decode cX7_isNote 17 = .ok (.ifCond .eq 7, 3) := by decide +kernel
theorem dX7_isNote_20 : decode cX7_isNote 20 = .ok (.iconst 1, 1) := by decide +kernel
theorem dX7_isNote_21 : decode cX7_isNote 21 = .ok (.goto 4, 3) := by decide +kernel
theorem dX7_isNote_24 : decode cX7_isNote 24 = .ok (.iconst 0, 1) := by decide +kernel
theorem dX7_isNote_25 : decode cX7_isNote 25 = .ok (.ireturn, 1) := by decide +kernel
theorem dX7_isGrouped_0 : decode cX7_isGrouped 0 = .ok (.aload_n 0, 1) := by decide +kernel
theorem dX7_isGrouped_1 : decode cX7_isGrouped 1 = .ok (.iload_n 1, 1) := by decide +kernel
theorem dX7_isGrouped_2 : decode cX7_isGrouped 2 = .ok (.invokevirtual 96, 3) := by decide +kernel
theorem dX7_isGrouped_5 : decode cX7_isGrouped 5 = .ok (.ifCond .eq 19, 3) := by decide +kernel
theorem dX7_isGrouped_8 : decode cX7_isGrouped 8 = .ok (.aload_n 0, 1) := by decide +kernel
theorem dX7_isGrouped_9 : decode cX7_isGrouped 9 = .ok (.getfield 51, 3) := by decide +kernel
theorem dX7_isGrouped_12 : decode cX7_isGrouped 12 = .ok (.getfield 130, 3) := by decide +kernel
theorem dX7_isGrouped_15 : decode cX7_isGrouped 15 = .ok (.iload_n 1, 1) := by decide +kernel
theorem dX7_isGrouped_16 : decode cX7_isGrouped 16 = .ok (.iaload, 1) := by decide +kernel
theorem dX7_isGrouped_17 : decode cX7_isGrouped 17 = .ok (.ifCond .lt 7, 3) := by decide +kernel
theorem dX7_isGrouped_20 : decode cX7_isGrouped 20 = .ok (.iconst 1, 1) := by decide +kernel
theorem dX7_isGrouped_21 : decode cX7_isGrouped 21 = .ok (.goto 4, 3) := by decide +kernel
theorem dX7_isGrouped_24 : decode cX7_isGrouped 24 = .ok (.iconst 0, 1) := by decide +kernel
theorem dX7_isGrouped_25 : decode cX7_isGrouped 25 = .ok (.ireturn, 1) := by decide +kernel
theorem dX7_isGroup_0 : decode cX7_isGroup 0 = .ok (.iload_n 1, 1) := by decide +kernel
theorem dX7_isGroup_1 : decode cX7_isGroup 1 = .ok (.ifCond .lt 18, 3) := by decide +kernel
theorem dX7_isGroup_4 : decode cX7_isGroup 4 = .ok (.iload_n 1, 1) := by decide +kernel
theorem dX7_isGroup_5 : decode cX7_isGroup 5 = .ok (.aload_n 0, 1) := by decide +kernel
theorem dX7_isGroup_6 : decode cX7_isGroup 6 = .ok (.getfield 51, 3) := by decide +kernel
theorem dX7_isGroup_9 : decode cX7_isGroup 9 = .ok (.getfield 316, 3) := by decide +kernel
theorem dX7_isGroup_12 : decode cX7_isGroup 12 = .ok (.if_icmp .ge 7, 3) := by decide +kernel
theorem dX7_isGroup_15 : decode cX7_isGroup 15 = .ok (.iconst 1, 1) := by decide +kernel
theorem dX7_isGroup_16 : decode cX7_isGroup 16 = .ok (.goto 4, 3) := by decide +kernel
theorem dX7_isGroup_19 : decode cX7_isGroup 19 = .ok (.iconst 0, 1) := by decide +kernel
theorem dX7_isGroup_20 : decode cX7_isGroup 20 = .ok (.ireturn, 1) := by decide +kernel
theorem dX7_isPosition_0 : decode cX7_isPosition 0 = .ok (.iload_n 0, 1) := by decide +kernel
theorem dX7_isPosition_1 : decode cX7_isPosition 1 = .ok (.bipush (-12), 2) := by decide +kernel
theorem dX7_isPosition_3 : decode cX7_isPosition 3 = .ok (.if_icmp .lt 13, 3) := by decide +kernel
theorem dX7_isPosition_6 : decode cX7_isPosition 6 = .ok (.iload_n 0, 1) := by decide +kernel
theorem dX7_isPosition_7 : decode cX7_isPosition 7 = .ok (.bipush 12, 2) := by decide +kernel
theorem dX7_isPosition_9 : decode cX7_isPosition 9 = .ok (.if_icmp .gt 7, 3) := by decide +kernel
theorem dX7_isPosition_12 : decode cX7_isPosition 12 = .ok (.iconst 1, 1) := by decide +kernel
theorem dX7_isPosition_13 : decode cX7_isPosition 13 = .ok (.goto 4, 3) := by decide +kernel
theorem dX7_isPosition_16 : decode cX7_isPosition 16 = .ok (.iconst 0, 1) := by decide +kernel
theorem dX7_isPosition_17 : decode cX7_isPosition 17 = .ok (.ireturn, 1) := by decide +kernel
theorem dX7_load_0 : decode cX7_load 0 = .ok (.aload_n 0, 1) := by decide +kernel
theorem dX7_load_1 : decode cX7_load 1 = .ok (.getfield 26, 3) := by decide +kernel
theorem dX7_load_4 : decode cX7_load 4 = .ok (.aload_n 0, 1) := by decide +kernel
theorem dX7_load_5 : decode cX7_load 5 = .ok (.getfield 51, 3) := by decide +kernel
theorem dX7_load_8 : decode cX7_load 8 = .ok (.aload_n 0, 1) := by decide +kernel
theorem dX7_load_9 : decode cX7_load 9 = .ok (.getfield 51, 3) := by decide +kernel
theorem dX7_load_12 : decode cX7_load 12 = .ok (.getfield 144, 3) := by decide +kernel
theorem dX7_load_15 : decode cX7_load 15 = .ok (.aload_n 0, 1) := by decide +kernel
theorem dX7_load_16 : decode cX7_load 16 = .ok (.getfield 51, 3) := by decide +kernel
theorem dX7_load_19 : decode cX7_load 19 = .ok (.getfield 179, 3) := by decide +kernel
theorem dX7_load_22 : decode cX7_load 22 = .ok (.iload_n 1, 1) := by decide +kernel
theorem dX7_load_23 : decode cX7_load 23 = .ok (.iaload, 1) := by decide +kernel
theorem dX7_load_24 : decode cX7_load 24 = .ok (.aload_n 0, 1) := by decide +kernel
theorem dX7_load_25 : decode cX7_load 25 = .ok (.getfield 51, 3) := by decide +kernel
theorem dX7_load_28 : decode cX7_load 28 = .ok (.getfield 341, 3) := by decide +kernel
theorem dX7_load_31 : decode cX7_load 31 = .ok (.iload_n 1, 1) := by decide +kernel
theorem dX7_load_32 : decode cX7_load 32 = .ok (.iaload, 1) := by decide +kernel
theorem dX7_load_33 : decode cX7_load 33 = .ok (.aload_n 0, 1) := by decide +kernel
theorem dX7_load_34 : decode cX7_load 34 = .ok (.getfield 51, 3) := by decide +kernel
theorem dX7_load_37 : decode cX7_load 37 = .ok (.getfield 294, 3) := by decide +kernel
theorem dX7_load_40 : decode cX7_load 40 = .ok (.invokevirtual 382, 3) := by decide +kernel
theorem dX7_load_43 : decode cX7_load 43 = .ok (.return_, 1) := by decide +kernel
theorem dX7_loadTried_0 : decode cX7_loadTried 0 = .ok (.aload_n 0, 1) := by decide +kernel
theorem dX7_loadTried_1 : decode cX7_loadTried 1 = .ok (.getfield 26, 3) := by decide +kernel
theorem dX7_loadTried_4 : decode cX7_loadTried 4 = .ok (.aload_n 0, 1) := by decide +kernel
theorem dX7_loadTried_5 : decode cX7_loadTried 5 = .ok (.getfield 51, 3) := by decide +kernel
theorem dX7_loadTried_8 : decode cX7_loadTried 8 = .ok (.aload_n 0, 1) := by decide +kernel
theorem dX7_loadTried_9 : decode cX7_loadTried 9 = .ok (.getfield 46, 3) := by decide +kernel
theorem dX7_loadTried_12 : decode cX7_loadTried 12 = .ok (.aload_n 0, 1) := by decide +kernel
theorem dX7_loadTried_13 : decode cX7_loadTried 13 = .ok (.getfield 51, 3) := by decide +kernel
theorem dX7_loadTried_16 : decode cX7_loadTried 16 = .ok (.getfield 179, 3) := by decide +kernel
theorem dX7_loadTried_19 : decode cX7_loadTried 19 = .ok (.iload_n 1, 1) := by decide +kernel
theorem dX7_loadTried_20 : decode cX7_loadTried 20 = .ok (.iaload, 1) := by decide +kernel
theorem dX7_loadTried_21 : decode cX7_loadTried 21 = .ok (.aload_n 0, 1) := by decide +kernel
theorem dX7_loadTried_22 : decode cX7_loadTried 22 = .ok (.getfield 51, 3) := by decide +kernel
theorem dX7_loadTried_25 : decode cX7_loadTried 25 = .ok (.getfield 341, 3) := by decide +kernel
theorem dX7_loadTried_28 : decode cX7_loadTried 28 = .ok (.iload_n 1, 1) := by decide +kernel
theorem dX7_loadTried_29 : decode cX7_loadTried 29 = .ok (.iaload, 1) := by decide +kernel
theorem dX7_loadTried_30 : decode cX7_loadTried 30 = .ok (.aload_n 0, 1) := by decide +kernel
theorem dX7_loadTried_31 : decode cX7_loadTried 31 = .ok (.getfield 51, 3) := by decide +kernel
theorem dX7_loadTried_34 : decode cX7_loadTried 34 = .ok (.getfield 294, 3) := by decide +kernel
theorem dX7_loadTried_37 : decode cX7_loadTried 37 = .ok (.invokevirtual 382, 3) := by decide +kernel
theorem dX7_loadTried_40 : decode cX7_loadTried 40 = .ok (.return_, 1) := by decide +kernel
theorem dX7_loadAround_0 : decode cX7_loadAround 0 = .ok (.aload_n 0, 1) := by decide +kernel
theorem dX7_loadAround_1 : decode cX7_loadAround 1 = .ok (.getfield 51, 3) := by decide +kernel
theorem dX7_loadAround_4 : decode cX7_loadAround 4 = .ok (.getfield 130, 3) := by decide +kernel
theorem dX7_loadAround_7 : decode cX7_loadAround 7 = .ok (.iload_n 1, 1) := by decide +kernel
theorem dX7_loadAround_8 : decode cX7_loadAround 8 = .ok (.iaload, 1) := by decide +kernel
theorem dX7_loadAround_9 : decode cX7_loadAround 9 = .ok (.istore_n 2, 1) := by decide +kernel
theorem dX7_loadAround_10 : decode cX7_loadAround 10 = .ok (.aload_n 0, 1) := by decide +kernel
theorem dX7_loadAround_11 : decode cX7_loadAround 11 = .ok (.iload_n 2, 1) := by decide +kernel
theorem dX7_loadAround_12 : decode cX7_loadAround 12 = .ok (.invokevirtual 176, 3) := by decide +kernel
theorem dX7_loadAround_15 : decode cX7_loadAround 15 = .ok (.iload_n 1, 1) := by decide +kernel
theorem dX7_loadAround_16 : decode cX7_loadAround 16 = .ok (.aload_n 0, 1) := by decide +kernel
theorem dX7_loadAround_17 : decode cX7_loadAround 17 = .ok (.getfield 51, 3) := by decide +kernel
theorem dX7_loadAround_20 : decode cX7_loadAround 20 = .ok (.getfield 179, 3) := by decide +kernel
theorem dX7_loadAround_23 : decode cX7_loadAround 23 = .ok (.iload_n 2, 1) := by decide +kernel
theorem dX7_loadAround_24 : decode cX7_loadAround 24 = .ok (.iaload, 1) := by decide +kernel
theorem dX7_loadAround_25 : decode cX7_loadAround 25 = .ok (.isub, 1) := by decide +kernel
theorem dX7_loadAround_26 : decode cX7_loadAround 26 = .ok (.ireturn, 1) := by decide +kernel
theorem dX7_tryShifted_0 : decode cX7_tryShifted 0 = .ok (.iconst 0, 1) := by decide +kernel
theorem dX7_tryShifted_1 : decode cX7_tryShifted 1 = .ok (.istore_n 2, 1) := by decide +kernel
theorem dX7_tryShifted_2 : decode cX7_tryShifted 2 = .ok (.iload_n 2, 1) := by decide +kernel
theorem dX7_tryShifted_3 : decode cX7_tryShifted 3 = .ok (.aload_n 0, 1) := by decide +kernel
theorem dX7_tryShifted_4 : decode cX7_tryShifted 4 = .ok (.getfield 51, 3) := by decide +kernel
theorem dX7_tryShifted_7 : decode cX7_tryShifted 7 = .ok (.getfield 322, 3) := by decide +kernel
theorem dX7_tryShifted_10 : decode cX7_tryShifted 10 = .ok (.if_icmp .ge 56, 3) := by decide +kernel
theorem dX7_tryShifted_13 : decode cX7_tryShifted 13 = .ok (.aload_n 0, 1) := by decide +kernel
theorem dX7_tryShifted_14 : decode cX7_tryShifted 14 = .ok (.getfield 46, 3) := by decide +kernel
theorem dX7_tryShifted_17 : decode cX7_tryShifted 17 = .ok (.iload_n 2, 1) := by decide +kernel
theorem dX7_tryShifted_18 : decode cX7_tryShifted 18 = .ok (.aload_n 0, 1) := by decide +kernel
theorem dX7_tryShifted_19 : decode cX7_tryShifted 19 = .ok (.getfield 51, 3) := by decide +kernel
theorem dX7_tryShifted_22 : decode cX7_tryShifted 22 = .ok (.getfield 109, 3) := by decide +kernel
theorem dX7_tryShifted_25 : decode cX7_tryShifted 25 = .ok (.iload_n 2, 1) := by decide +kernel
theorem dX7_tryShifted_26 : decode cX7_tryShifted 26 = .ok (.baload, 1) := by decide +kernel
theorem dX7_tryShifted_27 : decode cX7_tryShifted 27 = .ok (.ifCond .eq 17, 3) := by decide +kernel
theorem dX7_tryShifted_30 : decode cX7_tryShifted 30 = .ok (.aload_n 0, 1) := by decide +kernel
theorem dX7_tryShifted_31 : decode cX7_tryShifted 31 = .ok (.getfield 51, 3) := by decide +kernel
theorem dX7_tryShifted_34 : decode cX7_tryShifted 34 = .ok (.getfield 144, 3) := by decide +kernel
theorem dX7_tryShifted_37 : decode cX7_tryShifted 37 = .ok (.iload_n 2, 1) := by decide +kernel
theorem dX7_tryShifted_38 : decode cX7_tryShifted 38 = .ok (.iaload, 1) := by decide +kernel
theorem dX7_tryShifted_39 : decode cX7_tryShifted 39 = .ok (.iload_n 1, 1) := by decide +kernel
theorem dX7_tryShifted_40 : decode cX7_tryShifted 40 = .ok (.iadd, 1) := by decide +kernel
theorem dX7_tryShifted_41 : decode cX7_tryShifted 41 = .ok (.goto 4, 3) := by decide +kernel
theorem dX7_tryShifted_44 : decode cX7_tryShifted 44 = .ok (.iconst 0, 1) := by decide +kernel
theorem dX7_tryShifted_45 : decode cX7_tryShifted 45 = .ok (.iastore, 1) := by decide +kernel
theorem dX7_tryShifted_46 : decode cX7_tryShifted 46 = .ok (.aload_n 0, 1) := by decide +kernel
theorem dX7_tryShifted_47 : decode cX7_tryShifted 47 = .ok (.getfield 46, 3) := by decide +kernel
theorem dX7_tryShifted_50 : decode cX7_tryShifted 50 = .ok (.iload_n 2, 1) := by decide +kernel
theorem dX7_tryShifted_51 : decode cX7_tryShifted 51 = .ok (.iaload, 1) := by decide +kernel
theorem dX7_tryShifted_52 : decode cX7_tryShifted 52 = .ok (.invokestatic 154, 3) := by decide +kernel
theorem dX7_tryShifted_55 : decode cX7_tryShifted 55 = .ok (.ifCond .ne 5, 3) := by decide +kernel
theorem dX7_tryShifted_58 : decode cX7_tryShifted 58 = .ok (.iconst 0, 1) := by decide +kernel
theorem dX7_tryShifted_59 : decode cX7_tryShifted 59 = .ok (.ireturn, 1) := by decide +kernel
theorem dX7_tryShifted_60 : decode cX7_tryShifted 60 = .ok (.iinc 2 1, 3) := by decide +kernel
theorem dX7_tryShifted_63 : decode cX7_tryShifted 63 = .ok (.goto (-61), 3) := by decide +kernel
theorem dX7_tryShifted_66 : decode cX7_tryShifted 66 = .ok (.iconst 1, 1) := by decide +kernel
theorem dX7_tryShifted_67 : decode cX7_tryShifted 67 = .ok (.ireturn, 1) := by decide +kernel
theorem dX7_tellBest_0 : decode cX7_tellBest 0 = .ok (.iload_n 1, 1) := by decide +kernel
theorem dX7_tellBest_1 : decode cX7_tellBest 1 = .ok (.ifCond .lt 8, 3) := by decide +kernel
theorem dX7_tellBest_4 : decode cX7_tellBest 4 = .ok (.iload_n 1, 1) := by decide +kernel
theorem dX7_tellBest_5 : decode cX7_tellBest 5 = .ok (.iconst 5, 1) := by decide +kernel
theorem dX7_tellBest_6 : decode cX7_tellBest 6 = .ok (.if_icmp .le 6, 3) := by decide +kernel
theorem dX7_tellBest_9 : decode cX7_tellBest 9 = .ok (.ldc 147, 2) := by decide +kernel
theorem dX7_tellBest_11 : decode cX7_tellBest 11 = .ok (.ireturn, 1) := by decide +kernel
theorem dX7_tellBest_12 : decode cX7_tellBest 12 = .ok (.aload_n 0, 1) := by decide +kernel
theorem dX7_tellBest_13 : decode cX7_tellBest 13 = .ok (.getfield 26, 3) := by decide +kernel
theorem dX7_tellBest_16 : decode cX7_tellBest 16 = .ok (.invokevirtual 238, 3) := by decide +kernel
theorem dX7_tellBest_19 : decode cX7_tellBest 19 = .ok (.lstore_n 2, 1) := by decide +kernel
theorem dX7_tellBest_20 : decode cX7_tellBest 20 = .ok (.lload_n 2, 1) := by decide +kernel
theorem dX7_tellBest_21 : decode cX7_tellBest 21 = .ok (.ldc2_w 242, 3) := by decide +kernel
theorem dX7_tellBest_24 : decode cX7_tellBest 24 = .ok (.lcmp, 1) := by decide +kernel
theorem dX7_tellBest_25 : decode cX7_tellBest 25 = .ok (.ifCond .ne 8, 3) := by decide +kernel
theorem dX7_tellBest_28 : decode cX7_tellBest 28 = .ok (.ldc 147, 2) := by decide +kernel
theorem dX7_tellBest_30 : decode cX7_tellBest 30 = .ok (.goto 12, 3) := by decide +kernel
theorem dX7_tellBest_33 : decode cX7_tellBest 33 = .ok (.aload_n 0, 1) := by decide +kernel
theorem dX7_tellBest_34 : decode cX7_tellBest 34 = .ok (.getfield 26, 3) := by decide +kernel
theorem dX7_tellBest_37 : decode cX7_tellBest 37 = .ok (.lload_n 2, 1) := by decide +kernel
theorem dX7_tellBest_38 : decode cX7_tellBest 38 = .ok (.iload_n 1, 1) := by decide +kernel
theorem dX7_tellBest_39 : decode cX7_tellBest 39 = .ok (.invokevirtual 226, 3) := by decide +kernel
theorem dX7_tellBest_42 : decode cX7_tellBest 42 = .ok (.ireturn, 1) := by decide +kernel
