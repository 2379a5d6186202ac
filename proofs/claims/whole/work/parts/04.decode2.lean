theorem dX10_init_0 : decode cX10_init 0 = .ok (.aload_n 0, 1) := by decide +kernel
theorem dX10_init_1 : decode cX10_init 1 = .ok (.invokespecial 1, 3) := by decide +kernel
theorem dX10_init_4 : decode cX10_init 4 = .ok (.aload_n 0, 1) := by decide +kernel
theorem dX10_init_5 : decode cX10_init 5 = .ok (.new 7, 3) := by decide +kernel
theorem dX10_init_8 : decode cX10_init 8 = .ok (.dup, 1) := by decide +kernel
theorem dX10_init_9 : decode cX10_init 9 = .ok (.invokespecial 9, 3) := by decide +kernel
theorem dX10_init_12 : decode cX10_init 12 = .ok (.putfield 10, 3) := by decide +kernel
theorem dX10_init_15 : decode cX10_init 15 = .ok (.aload_n 0, 1) := by decide +kernel
theorem dX10_init_16 : decode cX10_init 16 = .ok (.new 16, 3) := by decide +kernel
theorem dX10_init_19 : decode cX10_init 19 = .ok (.dup, 1) := by decide +kernel
theorem dX10_init_20 : decode cX10_init 20 = .ok (.invokespecial 18, 3) := by decide +kernel
theorem dX10_init_23 : decode cX10_init 23 = .ok (.putfield 19, 3) := by decide +kernel
theorem dX10_init_26 : decode cX10_init 26 = .ok (.aload_n 0, 1) := by decide +kernel
theorem dX10_init_27 : decode cX10_init 27 = .ok (.iconst 4, 1) := by decide +kernel
theorem dX10_init_28 : decode cX10_init 28 = .ok (.anewarray 23, 3) := by decide +kernel
theorem dX10_init_31 : decode cX10_init 31 = .ok (.putfield 25, 3) := by decide +kernel
theorem dX10_init_34 : decode cX10_init 34 = .ok (.aload_n 0, 1) := by decide +kernel
theorem dX10_init_35 : decode cX10_init 35 = .ok (.bipush 6, 2) := by decide +kernel
theorem dX10_init_37 : decode cX10_init 37 = .ok (.anewarray 29, 3) := by decide +kernel
theorem dX10_init_40 : decode cX10_init 40 = .ok (.putfield 31, 3) := by decide +kernel
theorem dX10_init_43 : decode cX10_init 43 = .ok (.aload_n 0, 1) := by decide +kernel
theorem dX10_init_44 : decode cX10_init 44 = .ok (.iconst 4, 1) := by decide +kernel
theorem dX10_init_45 : decode cX10_init 45 = .ok (.anewarray 35, 3) := by decide +kernel
theorem dX10_init_48 : decode cX10_init 48 = .ok (.putfield 37, 3) := by decide +kernel
theorem dX10_init_51 : decode cX10_init 51 = .ok (.aload_n 0, 1) := by decide +kernel
theorem dX10_init_52 : decode cX10_init 52 = .ok (.new 41, 3) := by decide +kernel
theorem dX10_init_55 : decode cX10_init 55 = .ok (.dup, 1) := by decide +kernel
theorem dX10_init_56 : decode cX10_init 56 = .ok (.invokespecial 43, 3) := by decide +kernel
theorem dX10_init_59 : decode cX10_init 59 = .ok (.putfield 44, 3) := by decide +kernel
theorem dX10_init_62 : decode cX10_init 62 = .ok (.aload_n 0, 1) := by decide +kernel
theorem dX10_init_63 : decode cX10_init 63 = .ok (.iconst 0, 1) := by decide +kernel
theorem dX10_init_64 : decode cX10_init 64 = .ok (.putfield 48, 3) := by decide +kernel
theorem dX10_init_67 : decode cX10_init 67 = .ok (.aload_n 0, 1) := by decide +kernel
theorem dX10_init_68 : decode cX10_init 68 = .ok (.iconst 0, 1) := by decide +kernel
theorem dX10_init_69 : decode cX10_init 69 = .ok (.putfield 52, 3) := by decide +kernel
theorem dX10_init_72 : decode cX10_init 72 = .ok (.aload_n 0, 1) := by decide +kernel
theorem dX10_init_73 : decode cX10_init 73 = .ok (.iconst 0, 1) := by decide +kernel
theorem dX10_init_74 : decode cX10_init 74 = .ok (.putfield 55, 3) := by decide +kernel
theorem dX10_init_77 : decode cX10_init 77 = .ok (.aload_n 0, 1) := by decide +kernel
theorem dX10_init_78 : decode cX10_init 78 = .ok (.iconst 0, 1) := by decide +kernel
theorem dX10_init_79 : decode cX10_init 79 = .ok (.putfield 58, 3) := by decide +kernel
theorem dX10_init_82 : decode cX10_init 82 = .ok (.return_, 1) := by decide +kernel
theorem dX10_corner_0 : decode cX10_corner 0 = .ok (.iload_n 1, 1) := by decide +kernel
theorem dX10_corner_1 : decode cX10_corner 1 = .ok (.iconst 0, 1) := by decide +kernel
theorem dX10_corner_2 : decode cX10_corner 2 = .ok (.bipush 99, 2) := by decide +kernel
theorem dX10_corner_4 : decode cX10_corner 4 = .ok (.invokestatic 61, 3) := by decide +kernel
theorem dX10_corner_7 : decode cX10_corner 7 = .ok (.ifCond .eq 13, 3) := by decide +kernel
theorem dX10_corner_10 : decode cX10_corner 10 = .ok (.iload_n 2, 1) := by decide +kernel
theorem dX10_corner_11 : decode cX10_corner 11 = .ok (.iconst 0, 1) := by decide +kernel
theorem dX10_corner_12 : decode cX10_corner 12 = .ok (.bipush 99, 2) := by decide +kernel
theorem dX10_corner_14 : decode cX10_corner 14 = .ok (.invokestatic 61, 3) := by decide +kernel
theorem dX10_corner_17 : decode cX10_corner 17 = .ok (.ifCond .ne 10, 3) := by decide +kernel
theorem dX10_corner_20 : decode cX10_corner 20 = .ok (.aload_n 0, 1) := by decide +kernel
theorem dX10_corner_21 : decode cX10_corner 21 = .ok (.ldc 65, 2) := by decide +kernel
theorem dX10_corner_23 : decode cX10_corner 23 = .ok (.invokevirtual 66, 3) := by decide +kernel
theorem dX10_corner_26 : decode cX10_corner 26 = .ok (.ireturn, 1) := by decide +kernel
theorem dX10_corner_27 : decode cX10_corner 27 = .ok (.aload_n 0, 1) := by decide +kernel
theorem dX10_corner_28 : decode cX10_corner 28 = .ok (.getfield 10, 3) := by decide +kernel
theorem dX10_corner_31 : decode cX10_corner 31 = .ok (.getfield 70, 3) := by decide +kernel
theorem dX10_corner_34 : decode cX10_corner 34 = .ok (.bipush 8, 2) := by decide +kernel
theorem dX10_corner_36 : decode cX10_corner 36 = .ok (.if_icmp .lt 10, 3) := by decide +kernel
theorem dX10_corner_39 : decode cX10_corner 39 = .ok (.aload_n 0, 1) := by decide +kernel
theorem dX10_corner_40 : decode cX10_corner 40 = .ok (.ldc 73, 2) := by decide +kernel
theorem dX10_corner_42 : decode cX10_corner 42 = .ok (.invokevirtual 66, 3) := by decide +kernel
theorem dX10_corner_45 : decode cX10_corner 45 = .ok (.ireturn, 1) := by decide +kernel
theorem dX10_corner_46 : decode cX10_corner 46 = .ok (.aload_n 0, 1) := by decide +kernel
theorem dX10_corner_47 : decode cX10_corner 47 = .ok (.getfield 10, 3) := by decide +kernel
theorem dX10_corner_50 : decode cX10_corner 50 = .ok (.iload_n 1, 1) := by decide +kernel
theorem dX10_corner_51 : decode cX10_corner 51 = .ok (.iload_n 2, 1) := by decide +kernel
theorem dX10_corner_52 : decode cX10_corner 52 = .ok (.invokevirtual 74, 3) := by decide +kernel
theorem dX10_corner_55 : decode cX10_corner 55 = .ok (.ireturn, 1) := by decide +kernel
theorem dX10_way_0 : decode cX10_way 0 = .ok (.aload_n 0, 1) := by decide +kernel
theorem dX10_way_1 : decode cX10_way 1 = .ok (.getfield 10, 3) := by decide +kernel
theorem dX10_way_4 : decode cX10_way 4 = .ok (.iload_n 1, 1) := by decide +kernel
theorem dX10_way_5 : decode cX10_way 5 = .ok (.invokevirtual 78, 3) := by decide +kernel
theorem dX10_way_8 : decode cX10_way 8 = .ok (.ifCond .eq 19, 3) := by decide +kernel
theorem dX10_way_11 : decode cX10_way 11 = .ok (.aload_n 0, 1) := by decide +kernel
theorem dX10_way_12 : decode cX10_way 12 = .ok (.getfield 10, 3) := by decide +kernel
theorem dX10_way_15 : decode cX10_way 15 = .ok (.iload_n 2, 1) := by decide +kernel
theorem dX10_way_16 : decode cX10_way 16 = .ok (.invokevirtual 78, 3) := by decide +kernel
theorem dX10_way_19 : decode cX10_way 19 = .ok (.ifCond .eq 8, 3) := by decide +kernel
theorem dX10_way_22 : decode cX10_way 22 = .ok (.iload_n 1, 1) := by decide +kernel
theorem dX10_way_23 : decode cX10_way 23 = .ok (.iload_n 2, 1) := by decide +kernel
theorem dX10_way_24 : decode cX10_way 24 = .ok (.if_icmp .ne 10, 3) := by decide +kernel
theorem dX10_way_27 : decode cX10_way 27 = .ok (.aload_n 0, 1) := by decide +kernel
theorem dX10_way_28 : decode cX10_way 28 = .ok (.ldc 65, 2) := by decide +kernel
theorem dX10_way_30 : decode cX10_way 30 = .ok (.invokevirtual 66, 3) := by decide +kernel
theorem dX10_way_33 : decode cX10_way 33 = .ok (.ireturn, 1) := by decide +kernel
theorem dX10_way_34 : decode cX10_way 34 = .ok (.iload_n 3, 1) := by decide +kernel
theorem dX10_way_35 : decode cX10_way 35 = .ok (.iconst 1, 1) := by decide +kernel
theorem dX10_way_36 : decode cX10_way 36 = .ok (.bipush 20, 2) := by decide +kernel
theorem dX10_way_38 : decode cX10_way 38 = .ok (.invokestatic 61, 3) := by decide +kernel
theorem dX10_way_41 : decode cX10_way 41 = .ok (.ifCond .ne 10, 3) := by decide +kernel
theorem dX10_way_44 : decode cX10_way 44 = .ok (.aload_n 0, 1) := by decide +kernel
theorem dX10_way_45 : decode cX10_way 45 = .ok (.ldc 65, 2) := by decide +kernel
theorem dX10_way_47 : decode cX10_way 47 = .ok (.invokevirtual 66, 3) := by decide +kernel
theorem dX10_way_50 : decode cX10_way 50 = .ok (.ireturn, 1) := by decide +kernel
theorem dX10_way_51 : decode cX10_way 51 = .ok (.aload_n 0, 1) := by decide +kernel
theorem dX10_way_52 : decode cX10_way 52 = .ok (.getfield 10, 3) := by decide +kernel
theorem dX10_way_55 : decode cX10_way 55 = .ok (.getfield 82, 3) := by decide +kernel
theorem dX10_way_58 : decode cX10_way 58 = .ok (.bipush 14, 2) := by decide +kernel
theorem dX10_way_60 : decode cX10_way 60 = .ok (.if_icmp .lt 10, 3) := by decide +kernel
theorem dX10_way_63 : decode cX10_way 63 = .ok (.aload_n 0, 1) := by decide +kernel
theorem dX10_way_64 : decode cX10_way 64 = .ok (.ldc 73, 2) := by decide +kernel
theorem dX10_way_66 : decode cX10_way 66 = .ok (.invokevirtual 66, 3) := by decide +kernel
theorem dX10_way_69 : decode cX10_way 69 = .ok (.ireturn, 1) := by decide +kernel
theorem dX10_way_70 : decode cX10_way 70 = .ok (.aload_n 0, 1) := by decide +kernel
theorem dX10_way_71 : decode cX10_way 71 = .ok (.getfield 10, 3) := by decide +kernel
theorem dX10_way_74 : decode cX10_way 74 = .ok (.new 85, 3) := by decide +kernel
theorem dX10_way_77 : decode cX10_way 77 = .ok (.dup, 1) := by decide +kernel
theorem dX10_way_78 : decode cX10_way 78 = .ok (.iload_n 1, 1) := by decide +kernel
theorem dX10_way_79 : decode cX10_way 79 = .ok (.iload_n 2, 1) := by decide +kernel
theorem dX10_way_80 : decode cX10_way 80 = .ok (.iload_n 3, 1) := by decide +kernel
theorem dX10_way_81 : decode cX10_way 81 = .ok (.iload 4, 2) := by decide +kernel
theorem dX10_way_83 : decode cX10_way 83 = .ok (.invokespecial 87, 3) := by decide +kernel
theorem dX10_way_86 : decode cX10_way 86 = .ok (.invokevirtual 90, 3) := by decide +kernel
theorem dX10_way_89 : decode cX10_way 89 = .ok (.ireturn, 1) := by decide +kernel
theorem dX10_shut_0 : decode cX10_shut 0 = .ok (.aload_n 0, 1) := by decide +kernel
theorem dX10_shut_1 : decode cX10_shut 1 = .ok (.getfield 10, 3) := by decide +kernel
theorem dX10_shut_4 : decode cX10_shut 4 = .ok (.iload_n 1, 1) := by decide +kernel
theorem dX10_shut_5 : decode cX10_shut 5 = .ok (.invokevirtual 94, 3) := by decide +kernel
theorem dX10_shut_8 : decode cX10_shut 8 = .ok (.astore_n 3, 1) := by decide +kernel
theorem dX10_shut_9 : decode cX10_shut 9 = .ok (.aload_n 3, 1) := by decide +kernel
theorem dX10_shut_10 : decode cX10_shut 10 = .ok (.ifnull 13, 3) := by decide +kernel
theorem dX10_shut_13 : decode cX10_shut 13 = .ok (.iload_n 2, 1) := by decide +kernel
theorem dX10_shut_14 : decode cX10_shut 14 = .ok (.iconst 0, 1) := by decide +kernel
theorem dX10_shut_15 : decode cX10_shut 15 = .ok (.bipush 127, 2) := by decide +kernel
theorem dX10_shut_17 : decode cX10_shut 17 = .ok (.invokestatic 61, 3) := by decide +kernel
theorem dX10_shut_20 : decode cX10_shut 20 = .ok (.ifCond .ne 10, 3) := by decide +kernel
theorem dX10_shut_23 : decode cX10_shut 23 = .ok (.aload_n 0, 1) := by decide +kernel
theorem dX10_shut_24 : decode cX10_shut 24 = .ok (.ldc 65, 2) := by decide +kernel
theorem dX10_shut_26 : decode cX10_shut 26 = .ok (.invokevirtual 66, 3) := by decide +kernel
theorem dX10_shut_29 : decode cX10_shut 29 = .ok (.ireturn, 1) := by decide +kernel
theorem dX10_shut_30 : decode cX10_shut 30 = .ok (.aload_n 3, 1) := by decide +kernel
theorem dX10_shut_31 : decode cX10_shut 31 = .ok (.getfield 98, 3) := by decide +kernel
theorem dX10_shut_34 : decode cX10_shut 34 = .ok (.istore 4, 2) := by decide +kernel
theorem dX10_shut_36 : decode cX10_shut 36 = .ok (.aload_n 3, 1) := by decide +kernel
theorem dX10_shut_37 : decode cX10_shut 37 = .ok (.iload_n 2, 1) := by decide +kernel
theorem dX10_shut_38 : decode cX10_shut 38 = .ok (.putfield 98, 3) := by decide +kernel
theorem dX10_shut_41 : decode cX10_shut 41 = .ok (.iload 4, 2) := by decide +kernel
theorem dX10_shut_43 : decode cX10_shut 43 = .ok (.ireturn, 1) := by decide +kernel
theorem dX10_far_0 : decode cX10_far 0 = .ok (.aload_n 0, 1) := by decide +kernel
theorem dX10_far_1 : decode cX10_far 1 = .ok (.getfield 10, 3) := by decide +kernel
theorem dX10_far_4 : decode cX10_far 4 = .ok (.iload_n 1, 1) := by decide +kernel
theorem dX10_far_5 : decode cX10_far 5 = .ok (.invokevirtual 78, 3) := by decide +kernel
theorem dX10_far_8 : decode cX10_far 8 = .ok (.ifCond .eq 21, 3) := by decide +kernel
theorem dX10_far_11 : decode cX10_far 11 = .ok (.aload_n 0, 1) := by decide +kernel
theorem dX10_far_12 : decode cX10_far 12 = .ok (.getfield 10, 3) := by decide +kernel
theorem dX10_far_15 : decode cX10_far 15 = .ok (.iload_n 2, 1) := by decide +kernel
theorem dX10_far_16 : decode cX10_far 16 = .ok (.invokevirtual 78, 3) := by decide +kernel
theorem dX10_far_19 : decode cX10_far 19 = .ok (.ifCond .eq 10, 3) := by decide +kernel
theorem dX10_far_22 : decode cX10_far 22 = .ok (.iload_n 3, 1) := by decide +kernel
theorem dX10_far_23 : decode cX10_far 23 = .ok (.invokestatic 101, 3) := by decide +kernel
theorem dX10_far_26 : decode cX10_far 26 = .ok (.ifCond .ne 10, 3) := by decide +kernel
theorem dX10_far_29 : decode cX10_far 29 = .ok (.aload_n 0, 1) := by decide +kernel
theorem dX10_far_30 : decode cX10_far 30 = .ok (.ldc 65, 2) := by decide +kernel
theorem dX10_far_32 : decode cX10_far 32 = .ok (.invokevirtual 66, 3) := by decide +kernel
theorem dX10_far_35 : decode cX10_far 35 = .ok (.ireturn, 1) := by decide +kernel
theorem dX10_far_36 : decode cX10_far 36 = .ok (.aload_n 0, 1) := by decide +kernel
theorem dX10_far_37 : decode cX10_far 37 = .ok (.aload_n 0, 1) := by decide +kernel
theorem dX10_far_38 : decode cX10_far 38 = .ok (.getfield 44, 3) := by decide +kernel
theorem dX10_far_41 : decode cX10_far 41 = .ok (.aload_n 0, 1) := by decide +kernel
theorem dX10_far_42 : decode cX10_far 42 = .ok (.getfield 10, 3) := by decide +kernel
theorem dX10_far_45 : decode cX10_far 45 = .ok (.iload_n 1, 1) := by decide +kernel
theorem dX10_far_46 : decode cX10_far 46 = .ok (.iload_n 2, 1) := by decide +kernel
theorem dX10_far_47 : decode cX10_far 47 = .ok (.iload_n 3, 1) := by decide +kernel
theorem dX10_far_48 : decode cX10_far 48 = .ok (.iload 4, 2) := by decide +kernel
theorem dX10_far_50 : decode cX10_far 50 = .ok (.invokevirtual 104, 3) := by decide +kernel
theorem dX10_far_53 : decode cX10_far 53 = .ok (.invokevirtual 108, 3) := by decide +kernel
theorem dX10_far_56 : decode cX10_far 56 = .ok (.ireturn, 1) := by decide +kernel
theorem dX10_feed_0 : decode cX10_feed 0 = .ok (.iload_n 3, 1) := by decide +kernel
theorem dX10_feed_1 : decode cX10_feed 1 = .ok (.iconst 1, 1) := by decide +kernel
theorem dX10_feed_2 : decode cX10_feed 2 = .ok (.bipush 8, 2) := by decide +kernel
theorem dX10_feed_4 : decode cX10_feed 4 = .ok (.invokestatic 61, 3) := by decide +kernel
theorem dX10_feed_7 : decode cX10_feed 7 = .ok (.ifCond .ne 10, 3) := by decide +kernel
theorem dX10_feed_10 : decode cX10_feed 10 = .ok (.aload_n 0, 1) := by decide +kernel
theorem dX10_feed_11 : decode cX10_feed 11 = .ok (.ldc 65, 2) := by decide +kernel
theorem dX10_feed_13 : decode cX10_feed 13 = .ok (.invokevirtual 66, 3) := by decide +kernel
theorem dX10_feed_16 : decode cX10_feed 16 = .ok (.ireturn, 1) := by decide +kernel
theorem dX10_feed_17 : decode cX10_feed 17 = .ok (.aload_n 0, 1) := by decide +kernel
theorem dX10_feed_18 : decode cX10_feed 18 = .ok (.getfield 19, 3) := by decide +kernel
theorem dX10_feed_21 : decode cX10_feed 21 = .ok (.getfield 111, 3) := by decide +kernel
theorem dX10_feed_24 : decode cX10_feed 24 = .ok (.iload_n 3, 1) := by decide +kernel
theorem dX10_feed_25 : decode cX10_feed 25 = .ok (.iadd, 1) := by decide +kernel
theorem dX10_feed_26 : decode cX10_feed 26 = .ok (.sipush 200, 3) := by decide +kernel
theorem dX10_feed_29 : decode cX10_feed 29 = .ok (.if_icmp .le 10, 3) := by decide +kernel
theorem dX10_feed_32 : decode cX10_feed 32 = .ok (.aload_n 0, 1) := by decide +kernel
theorem dX10_feed_33 : decode cX10_feed 33 = .ok (.ldc 73, 2) := by decide +kernel
theorem dX10_feed_35 : decode cX10_feed 35 = .ok (.invokevirtual 66, 3) := by decide +kernel
theorem dX10_feed_38 : decode cX10_feed 38 = .ok (.ireturn, 1) := by decide +kernel
theorem dX10_feed_39 : decode cX10_feed 39 = .ok (.aload_n 0, 1) := by decide +kernel
theorem dX10_feed_40 : decode cX10_feed 40 = .ok (.getfield 19, 3) := by decide +kernel
theorem dX10_feed_43 : decode cX10_feed 43 = .ok (.lload_n 1, 1) := by decide +kernel
theorem dX10_feed_44 : decode cX10_feed 44 = .ok (.iload_n 3, 1) := by decide +kernel
theorem dX10_feed_45 : decode cX10_feed 45 = .ok (.invokevirtual 114, 3) := by decide +kernel
theorem dX10_feed_48 : decode cX10_feed 48 = .ok (.aload_n 0, 1) := by decide +kernel
theorem dX10_feed_49 : decode cX10_feed 49 = .ok (.getfield 19, 3) := by decide +kernel
theorem dX10_feed_52 : decode cX10_feed 52 = .ok (.getfield 111, 3) := by decide +kernel
theorem dX10_feed_55 : decode cX10_feed 55 = .ok (.ireturn, 1) := by decide +kernel
theorem dX10_story_0 : decode cX10_story 0 = .ok (.new 118, 3) := by decide +kernel
theorem dX10_story_3 : decode cX10_story 3 = .ok (.dup, 1) := by decide +kernel
theorem dX10_story_4 : decode cX10_story 4 = .ok (.aload_n 0, 1) := by decide +kernel
theorem dX10_story_5 : decode cX10_story 5 = .ok (.getfield 19, 3) := by decide +kernel
theorem dX10_story_8 : decode cX10_story 8 = .ok (.aload_n 0, 1) := by decide +kernel
theorem dX10_story_9 : decode cX10_story 9 = .ok (.getfield 10, 3) := by decide +kernel
theorem dX10_story_12 : decode cX10_story 12 = .ok (.getfield 70, 3) := by decide +kernel
theorem dX10_story_15 : decode cX10_story 15 = .ok (.invokespecial 120, 3) := by decide +kernel
theorem dX10_story_18 : decode cX10_story 18 = .ok (.astore_n 1, 1) := by decide +kernel
theorem dX10_story_19 : decode cX10_story 19 = .ok (.aload_n 1, 1) := by decide +kernel
theorem dX10_story_20 : decode cX10_story 20 = .ok (.invokevirtual 123, 3) := by decide +kernel
theorem dX10_story_23 : decode cX10_story 23 = .ok (.astore_n 2, 1) := by decide +kernel
theorem dX10_story_24 : decode cX10_story 24 = .ok (.aload_n 0, 1) := by decide +kernel
theorem dX10_story_25 : decode cX10_story 25 = .ok (.getfield 19, 3) := by decide +kernel
theorem dX10_story_28 : decode cX10_story 28 = .ok (.iconst 0, 1) := by decide +kernel
theorem dX10_story_29 : decode cX10_story 29 = .ok (.putfield 111, 3) := by decide +kernel
theorem dX10_story_32 : decode cX10_story 32 = .ok (.aload_n 2, 1) := by decide +kernel
theorem dX10_story_33 : decode cX10_story 33 = .ok (.ifnonnull 15, 3) := by decide +kernel
theorem dX10_story_36 : decode cX10_story 36 = .ok (.aload_n 0, 1) := by decide +kernel
theorem dX10_story_37 : decode cX10_story 37 = .ok (.ldc 127, 2) := by decide +kernel
theorem dX10_story_39 : decode cX10_story 39 = .ok (.aload_n 1, 1) := by decide +kernel
theorem dX10_story_40 : decode cX10_story 40 = .ok (.getfield 128, 3) := by decide +kernel
theorem dX10_story_43 : decode cX10_story 43 = .ok (.isub, 1) := by decide +kernel
theorem dX10_story_44 : decode cX10_story 44 = .ok (.invokevirtual 66, 3) := by decide +kernel
theorem dX10_story_47 : decode cX10_story 47 = .ok (.ireturn, 1) := by decide +kernel
theorem dX10_story_48 : decode cX10_story 48 = .ok (.aload_n 0, 1) := by decide +kernel
theorem dX10_story_49 : decode cX10_story 49 = .ok (.getfield 48, 3) := by decide +kernel
theorem dX10_story_52 : decode cX10_story 52 = .ok (.iconst 4, 1) := by decide +kernel
theorem dX10_story_53 : decode cX10_story 53 = .ok (.if_icmp .lt 10, 3) := by decide +kernel
theorem dX10_story_56 : decode cX10_story 56 = .ok (.aload_n 0, 1) := by decide +kernel
theorem dX10_story_57 : decode cX10_story 57 = .ok (.ldc 73, 2) := by decide +kernel
theorem dX10_story_59 : decode cX10_story 59 = .ok (.invokevirtual 66, 3) := by decide +kernel
theorem dX10_story_62 : decode cX10_story 62 = .ok (.ireturn, 1) := by decide +kernel
theorem dX10_story_63 : decode cX10_story 63 = .ok (.aload_n 0, 1) := by decide +kernel
theorem dX10_story_64 : decode cX10_story 64 = .ok (.getfield 25, 3) := by decide +kernel
theorem dX10_story_67 : decode cX10_story 67 = .ok (.aload_n 0, 1) := by decide +kernel
theorem dX10_story_68 : decode cX10_story 68 = .ok (.getfield 48, 3) := by decide +kernel
theorem dX10_story_71 : decode cX10_story 71 = .ok (.aload_n 2, 1) := by decide +kernel
theorem dX10_story_72 : decode cX10_story 72 = .ok (.aastore, 1) := by decide +kernel
theorem dX10_story_73 : decode cX10_story 73 = .ok (.aload_n 0, 1) := by decide +kernel
theorem dX10_story_74 : decode cX10_story 74 = .ok (.dup, 1) := by decide +kernel
theorem dX10_story_75 : decode cX10_story 75 = .ok (.getfield 48, 3) := by decide +kernel
theorem dX10_story_78 : decode cX10_story 78 = .ok (.iconst 1, 1) := by decide +kernel
theorem dX10_story_79 : decode cX10_story 79 = .ok (.iadd, 1) := by decide +kernel
theorem dX10_story_80 : decode cX10_story 80 = .ok (.putfield 48, 3) := by decide +kernel
theorem dX10_story_83 : decode cX10_story 83 = .ok (.aload_n 0, 1) := by decide +kernel
theorem dX10_story_84 : decode cX10_story 84 = .ok (.getfield 48, 3) := by decide +kernel
theorem dX10_story_87 : decode cX10_story 87 = .ok (.iconst 1, 1) := by decide +kernel
theorem dX10_story_88 : decode cX10_story 88 = .ok (.isub, 1) := by decide +kernel
theorem dX10_story_89 : decode cX10_story 89 = .ok (.ireturn, 1) := by decide +kernel
theorem dX10_as_0 : decode cX10_as 0 = .ok (.aload_n 0, 1) := by decide +kernel
theorem dX10_as_1 : decode cX10_as 1 = .ok (.iload_n 1, 1) := by decide +kernel
theorem dX10_as_2 : decode cX10_as 2 = .ok (.iload_n 2, 1) := by decide +kernel
theorem dX10_as_3 : decode cX10_as 3 = .ok (.invokevirtual 131, 3) := by decide +kernel
theorem dX10_as_6 : decode cX10_as 6 = .ok (.astore 4, 2) := by decide +kernel
theorem dX10_as_8 : decode cX10_as 8 = .ok (.aload 4, 2) := by decide +kernel
theorem dX10_as_10 : decode cX10_as 10 = .ok (.ifnull 12, 3) := by decide +kernel
theorem dX10_as_13 : decode cX10_as 13 = .ok (.iload_n 3, 1) := by decide +kernel
theorem dX10_as_14 : decode cX10_as 14 = .ok (.iconst 0, 1) := by decide +kernel
theorem dX10_as_15 : decode cX10_as 15 = .ok (.iconst 3, 1) := by decide +kernel
theorem dX10_as_16 : decode cX10_as 16 = .ok (.invokestatic 61, 3) := by decide +kernel
theorem dX10_as_19 : decode cX10_as 19 = .ok (.ifCond .ne 10, 3) := by decide +kernel
theorem dX10_as_22 : decode cX10_as 22 = .ok (.aload_n 0, 1) := by decide +kernel
theorem dX10_as_23 : decode cX10_as 23 = .ok (.ldc 65, 2) := by decide +kernel
theorem dX10_as_25 : decode cX10_as 25 = .ok (.invokevirtual 66, 3) := by decide +kernel
theorem dX10_as_28 : decode cX10_as 28 = .ok (.ireturn, 1) := by decide +kernel
theorem dX10_as_29 : decode cX10_as 29 = .ok (.aload 4, 2) := by decide +kernel
theorem dX10_as_31 : decode cX10_as 31 = .ok (.iload_n 3, 1) := by decide +kernel
theorem dX10_as_32 : decode cX10_as 32 = .ok (.invokevirtual 135, 3) := by decide +kernel
theorem dX10_as_35 : decode cX10_as 35 = .ok (.ifCond .eq 7, 3) := by decide +kernel
theorem dX10_as_38 : decode cX10_as 38 = .ok (.iload_n 2, 1) := by decide +kernel
theorem dX10_as_39 : decode cX10_as 39 = .ok (.goto 9, 3) := by decide +kernel
theorem dX10_as_42 : decode cX10_as 42 = .ok (.aload_n 0, 1) := by decide +kernel
theorem dX10_as_43 : decode cX10_as 43 = .ok (.ldc 140, 2) := by decide +kernel
theorem dX10_as_45 : decode cX10_as 45 = .ok (.invokevirtual 66, 3) := by decide +kernel
theorem dX10_as_48 : decode cX10_as 48 = .ok (.ireturn, 1) := by decide +kernel
theorem dX10_of_0 : decode cX10_of 0 = .ok (.aload_n 0, 1) := by decide +kernel
theorem dX10_of_1 : decode cX10_of 1 = .ok (.iload_n 1, 1) := by decide +kernel
theorem dX10_of_2 : decode cX10_of 2 = .ok (.iload_n 2, 1) := by decide +kernel
theorem dX10_of_3 : decode cX10_of 3 = .ok (.invokevirtual 131, 3) := by decide +kernel
theorem dX10_of_6 : decode cX10_of 6 = .ok (.astore 4, 2) := by decide +kernel
theorem dX10_of_8 : decode cX10_of 8 = .ok (.aload 4, 2) := by decide +kernel
theorem dX10_of_10 : decode cX10_of 10 = .ok (.ifnonnull 10, 3) := by decide +kernel
theorem dX10_of_13 : decode cX10_of 13 = .ok (.aload_n 0, 1) := by decide +kernel
theorem dX10_of_14 : decode cX10_of 14 = .ok (.ldc 65, 2) := by decide +kernel
theorem dX10_of_16 : decode cX10_of 16 = .ok (.invokevirtual 66, 3) := by decide +kernel
theorem dX10_of_19 : decode cX10_of 19 = .ok (.ireturn, 1) := by decide +kernel
theorem dX10_of_20 : decode cX10_of 20 = .ok (.iload_n 3, 1) := by decide +kernel
theorem dX10_of_21 : decode cX10_of 21 = .ok (.tableswitch 65 0 4 #[35, 41, 47, 53, 59], 35) := by decide +kernel
theorem dX10_of_56 : decode cX10_of 56 = .ok (.aload 4, 2) := by decide +kernel
theorem dX10_of_58 : decode cX10_of 58 = .ok (.getfield 141, 3) := by decide +kernel
theorem dX10_of_61 : decode cX10_of 61 = .ok (.ireturn, 1) := by decide +kernel
theorem dX10_of_62 : decode cX10_of 62 = .ok (.aload 4, 2) := by decide +kernel
theorem dX10_of_64 : decode cX10_of 64 = .ok (.getfield 144, 3) := by decide +kernel
theorem dX10_of_67 : decode cX10_of 67 = .ok (.ireturn, 1) := by decide +kernel
theorem dX10_of_68 : decode cX10_of 68 = .ok (.aload 4, 2) := by decide +kernel
theorem dX10_of_70 : decode cX10_of 70 = .ok (.getfield 147, 3) := by decide +kernel
theorem dX10_of_73 : decode cX10_of 73 = .ok (.ireturn, 1) := by decide +kernel
theorem dX10_of_74 : decode cX10_of 74 = .ok (.aload 4, 2) := by decide +kernel
theorem dX10_of_76 : decode cX10_of 76 = .ok (.getfield 148, 3) := by decide +kernel
theorem dX10_of_79 : decode cX10_of 79 = .ok (.ireturn, 1) := by decide +kernel
theorem dX10_of_80 : decode cX10_of 80 = .ok (.aload 4, 2) := by decide +kernel
theorem dX10_of_82 : decode cX10_of 82 = .ok (.getfield 151, 3) := by decide +kernel
theorem dX10_of_85 : decode cX10_of 85 = .ok (.ireturn, 1) := by decide +kernel
theorem dX10_of_86 : decode cX10_of 86 = .ok (.aload_n 0, 1) := by decide +kernel
theorem dX10_of_87 : decode cX10_of 87 = .ok (.ldc 65, 2) := by decide +kernel
theorem dX10_of_89 : decode cX10_of 89 = .ok (.invokevirtual 66, 3) := by decide +kernel
theorem dX10_of_92 : decode cX10_of 92 = .ok (.ireturn, 1) := by decide +kernel
theorem dX10_check_0 : decode cX10_check 0 = .ok (.iload 5, 2) := by decide +kernel
theorem dX10_check_2 : decode cX10_check 2 = .ok (.iconst 0, 1) := by decide +kernel
theorem dX10_check_3 : decode cX10_check 3 = .ok (.iconst 3, 1) := by decide +kernel
theorem dX10_check_4 : decode cX10_check 4 = .ok (.invokestatic 61, 3) := by decide +kernel
theorem dX10_check_7 : decode cX10_check 7 = .ok (.ifCond .eq 15, 3) := by decide +kernel
theorem dX10_check_10 : decode cX10_check 10 = .ok (.aload_n 0, 1) := by decide +kernel
theorem dX10_check_11 : decode cX10_check 11 = .ok (.iload_n 1, 1) := by decide +kernel
theorem dX10_check_12 : decode cX10_check 12 = .ok (.iload_n 2, 1) := by decide +kernel
theorem dX10_check_13 : decode cX10_check 13 = .ok (.iload_n 3, 1) := by decide +kernel
theorem dX10_check_14 : decode cX10_check 14 = .ok (.iload 4, 2) := by decide +kernel
theorem dX10_check_16 : decode cX10_check 16 = .ok (.invokevirtual 154, 3) := by decide +kernel
theorem dX10_check_19 : decode cX10_check 19 = .ok (.ifCond .ne 10, 3) := by decide +kernel
theorem dX10_check_22 : decode cX10_check 22 = .ok (.aload_n 0, 1) := by decide +kernel
theorem dX10_check_23 : decode cX10_check 23 = .ok (.ldc 65, 2) := by decide +kernel
theorem dX10_check_25 : decode cX10_check 25 = .ok (.invokevirtual 66, 3) := by decide +kernel
theorem dX10_check_28 : decode cX10_check 28 = .ok (.ireturn, 1) := by decide +kernel
theorem dX10_check_29 : decode cX10_check 29 = .ok (.iload 5, 2) := by decide +kernel
theorem dX10_check_31 : decode cX10_check 31 = .ok (.tableswitch 49 0 2 #[25, 33, 41], 25) := by decide +kernel
theorem dX10_check_56 : decode cX10_check 56 = .ok (.aload_n 0, 1) := by decide +kernel
theorem dX10_check_57 : decode cX10_check 57 = .ok (.getfield 44, 3) := by decide +kernel
theorem dX10_check_60 : decode cX10_check 60 = .ok (.invokevirtual 158, 3) := by decide +kernel
theorem dX10_check_63 : decode cX10_check 63 = .ok (.ireturn, 1) := by decide +kernel
theorem dX10_check_64 : decode cX10_check 64 = .ok (.aload_n 0, 1) := by decide +kernel
theorem dX10_check_65 : decode cX10_check 65 = .ok (.getfield 44, 3) := by decide +kernel
theorem dX10_check_68 : decode cX10_check 68 = .ok (.invokevirtual 162, 3) := by decide +kernel
theorem dX10_check_71 : decode cX10_check 71 = .ok (.ireturn, 1) := by decide +kernel
theorem dX10_check_72 : decode cX10_check 72 = .ok (.aload_n 0, 1) := by decide +kernel
theorem dX10_check_73 : decode cX10_check 73 = .ok (.getfield 44, 3) := by decide +kernel
theorem dX10_check_76 : decode cX10_check 76 = .ok (.invokevirtual 165, 3) := by decide +kernel
theorem dX10_check_79 : decode cX10_check 79 = .ok (.ireturn, 1) := by decide +kernel
theorem dX10_check_80 : decode cX10_check 80 = .ok (.aload_n 0, 1) := by decide +kernel
theorem dX10_check_81 : decode cX10_check 81 = .ok (.getfield 44, 3) := by decide +kernel
theorem dX10_check_84 : decode cX10_check 84 = .ok (.invokevirtual 168, 3) := by decide +kernel
theorem dX10_check_87 : decode cX10_check 87 = .ok (.ireturn, 1) := by decide +kernel
theorem dX10_quickest_0 : decode cX10_quickest 0 = .ok (.aload_n 0, 1) := by decide +kernel
theorem dX10_quickest_1 : decode cX10_quickest 1 = .ok (.iload_n 1, 1) := by decide +kernel
theorem dX10_quickest_2 : decode cX10_quickest 2 = .ok (.iload_n 2, 1) := by decide +kernel
theorem dX10_quickest_3 : decode cX10_quickest 3 = .ok (.iload_n 3, 1) := by decide +kernel
theorem dX10_quickest_4 : decode cX10_quickest 4 = .ok (.iload 4, 2) := by decide +kernel
theorem dX10_quickest_6 : decode cX10_quickest 6 = .ok (.invokevirtual 154, 3) := by decide +kernel
theorem dX10_quickest_9 : decode cX10_quickest 9 = .ok (.ifCond .ne 10, 3) := by decide +kernel
theorem dX10_quickest_12 : decode cX10_quickest 12 = .ok (.aload_n 0, 1) := by decide +kernel
theorem dX10_quickest_13 : decode cX10_quickest 13 = .ok (.ldc 65, 2) := by decide +kernel
theorem dX10_quickest_15 : decode cX10_quickest 15 = .ok (.invokevirtual 66, 3) := by decide +kernel
theorem dX10_quickest_18 : decode cX10_quickest 18 = .ok (.ireturn, 1) := by decide +kernel
theorem dX10_quickest_19 : decode cX10_quickest 19 = .ok (.aload_n 0, 1) := by decide +kernel
theorem dX10_quickest_20 : decode cX10_quickest 20 = .ok (.aload_n 0, 1) := by decide +kernel
theorem dX10_quickest_21 : decode cX10_quickest 21 = .ok (.getfield 44, 3) := by decide +kernel
theorem dX10_quickest_24 : decode cX10_quickest 24 = .ok (.iload_n 2, 1) := by decide +kernel
theorem dX10_quickest_25 : decode cX10_quickest 25 = .ok (.iconst 0, 1) := by decide +kernel
theorem dX10_quickest_26 : decode cX10_quickest 26 = .ok (.invokevirtual 171, 3) := by decide +kernel
theorem dX10_quickest_29 : decode cX10_quickest 29 = .ok (.invokevirtual 108, 3) := by decide +kernel
theorem dX10_quickest_32 : decode cX10_quickest 32 = .ok (.ireturn, 1) := by decide +kernel
theorem dX10_route_0 : decode cX10_route 0 = .ok (.iload 5, 2) := by decide +kernel
theorem dX10_route_2 : decode cX10_route 2 = .ok (.ifCond .lt 15, 3) := by decide +kernel
theorem dX10_route_5 : decode cX10_route 5 = .ok (.aload_n 0, 1) := by decide +kernel
theorem dX10_route_6 : decode cX10_route 6 = .ok (.iload_n 1, 1) := by decide +kernel
theorem dX10_route_7 : decode cX10_route 7 = .ok (.iload_n 2, 1) := by decide +kernel
theorem dX10_route_8 : decode cX10_route 8 = .ok (.iload_n 3, 1) := by decide +kernel
theorem dX10_route_9 : decode cX10_route 9 = .ok (.iload 4, 2) := by decide +kernel
theorem dX10_route_11 : decode cX10_route 11 = .ok (.invokevirtual 154, 3) := by decide +kernel
theorem dX10_route_14 : decode cX10_route 14 = .ok (.ifCond .ne 10, 3) := by decide +kernel
theorem dX10_route_17 : decode cX10_route 17 = .ok (.aload_n 0, 1) := by decide +kernel
theorem dX10_route_18 : decode cX10_route 18 = .ok (.ldc 65, 2) := by decide +kernel
theorem dX10_route_20 : decode cX10_route 20 = .ok (.invokevirtual 66, 3) := by decide +kernel
theorem dX10_route_23 : decode cX10_route 23 = .ok (.ireturn, 1) := by decide +kernel
theorem dX10_route_24 : decode cX10_route 24 = .ok (.aload_n 0, 1) := by decide +kernel
theorem dX10_route_25 : decode cX10_route 25 = .ok (.getfield 44, 3) := by decide +kernel
theorem dX10_route_28 : decode cX10_route 28 = .ok (.iload_n 2, 1) := by decide +kernel
theorem dX10_route_29 : decode cX10_route 29 = .ok (.iconst 0, 1) := by decide +kernel
theorem dX10_route_30 : decode cX10_route 30 = .ok (.invokevirtual 171, 3) := by decide +kernel
theorem dX10_route_33 : decode cX10_route 33 = .ok (.ldc 174, 2) := by decide +kernel
theorem dX10_route_35 : decode cX10_route 35 = .ok (.if_icmp .lt 10, 3) := by decide +kernel
theorem dX10_route_38 : decode cX10_route 38 = .ok (.aload_n 0, 1) := by decide +kernel
theorem dX10_route_39 : decode cX10_route 39 = .ok (.ldc 175, 2) := by decide +kernel
theorem dX10_route_41 : decode cX10_route 41 = .ok (.invokevirtual 66, 3) := by decide +kernel
theorem dX10_route_44 : decode cX10_route 44 = .ok (.ireturn, 1) := by decide +kernel
theorem dX10_route_45 : decode cX10_route 45 = .ok (.aload_n 0, 1) := by decide +kernel
theorem dX10_route_46 : decode cX10_route 46 = .ok (.getfield 44, 3) := by decide +kernel
theorem dX10_route_49 : decode cX10_route 49 = .ok (.iload_n 2, 1) := by decide +kernel
theorem dX10_route_50 : decode cX10_route 50 = .ok (.iload 5, 2) := by decide +kernel
theorem dX10_route_52 : decode cX10_route 52 = .ok (.invokevirtual 176, 3) := by decide +kernel
theorem dX10_route_55 : decode cX10_route 55 = .ok (.ireturn, 1) := by decide +kernel
theorem dX10_walker_0 : decode cX10_walker 0 = .ok (.aload_n 0, 1) := by decide +kernel
theorem dX10_walker_1 : decode cX10_walker 1 = .ok (.getfield 10, 3) := by decide +kernel
theorem dX10_walker_4 : decode cX10_walker 4 = .ok (.iload_n 1, 1) := by decide +kernel
theorem dX10_walker_5 : decode cX10_walker 5 = .ok (.invokevirtual 78, 3) := by decide +kernel
theorem dX10_walker_8 : decode cX10_walker 8 = .ok (.ifCond .ne 10, 3) := by decide +kernel
theorem dX10_walker_11 : decode cX10_walker 11 = .ok (.aload_n 0, 1) := by decide +kernel
theorem dX10_walker_12 : decode cX10_walker 12 = .ok (.ldc 65, 2) := by decide +kernel
theorem dX10_walker_14 : decode cX10_walker 14 = .ok (.invokevirtual 66, 3) := by decide +kernel
theorem dX10_walker_17 : decode cX10_walker 17 = .ok (.ireturn, 1) := by decide +kernel
theorem dX10_walker_18 : decode cX10_walker 18 = .ok (.aload_n 0, 1) := by decide +kernel
theorem dX10_walker_19 : decode cX10_walker 19 = .ok (.aload_n 0, 1) := by decide +kernel
theorem dX10_walker_20 : decode cX10_walker 20 = .ok (.getfield 48, 3) := by decide +kernel
theorem dX10_walker_23 : decode cX10_walker 23 = .ok (.iconst 1, 1) := by decide +kernel
theorem dX10_walker_24 : decode cX10_walker 24 = .ok (.isub, 1) := by decide +kernel
theorem dX10_walker_25 : decode cX10_walker 25 = .ok (.invokevirtual 179, 3) := by decide +kernel
theorem dX10_walker_28 : decode cX10_walker 28 = .ok (.astore_n 3, 1) := by decide +kernel
theorem dX10_walker_29 : decode cX10_walker 29 = .ok (.aload_n 3, 1) := by decide +kernel
theorem dX10_walker_30 : decode cX10_walker 30 = .ok (.ifnonnull 10, 3) := by decide +kernel
theorem dX10_walker_33 : decode cX10_walker 33 = .ok (.aload_n 0, 1) := by decide +kernel
theorem dX10_walker_34 : decode cX10_walker 34 = .ok (.ldc 183, 2) := by decide +kernel
theorem dX10_walker_36 : decode cX10_walker 36 = .ok (.invokevirtual 66, 3) := by decide +kernel
theorem dX10_walker_39 : decode cX10_walker 39 = .ok (.ireturn, 1) := by decide +kernel
theorem dX10_walker_40 : decode cX10_walker 40 = .ok (.aload_n 0, 1) := by decide +kernel
theorem dX10_walker_41 : decode cX10_walker 41 = .ok (.getfield 52, 3) := by decide +kernel
theorem dX10_walker_44 : decode cX10_walker 44 = .ok (.bipush 6, 2) := by decide +kernel
theorem dX10_walker_46 : decode cX10_walker 46 = .ok (.if_icmp .lt 10, 3) := by decide +kernel
theorem dX10_walker_49 : decode cX10_walker 49 = .ok (.aload_n 0, 1) := by decide +kernel
theorem dX10_walker_50 : decode cX10_walker 50 = .ok (.ldc 73, 2) := by decide +kernel
theorem dX10_walker_52 : decode cX10_walker 52 = .ok (.invokevirtual 66, 3) := by decide +kernel
theorem dX10_walker_55 : decode cX10_walker 55 = .ok (.ireturn, 1) := by decide +kernel
theorem dX10_walker_56 : decode cX10_walker 56 = .ok (.new 29, 3) := by decide +kernel
theorem dX10_walker_59 : decode cX10_walker 59 = .ok (.dup, 1) := by decide +kernel
theorem dX10_walker_60 : decode cX10_walker 60 = .ok (.aload_n 3, 1) := by decide +kernel
theorem dX10_walker_61 : decode cX10_walker 61 = .ok (.aload_n 0, 1) := by decide +kernel
theorem dX10_walker_62 : decode cX10_walker 62 = .ok (.getfield 48, 3) := by decide +kernel
theorem dX10_walker_65 : decode cX10_walker 65 = .ok (.iconst 1, 1) := by decide +kernel
theorem dX10_walker_66 : decode cX10_walker 66 = .ok (.isub, 1) := by decide +kernel
theorem dX10_walker_67 : decode cX10_walker 67 = .ok (.iload_n 2, 1) := by decide +kernel
theorem dX10_walker_68 : decode cX10_walker 68 = .ok (.invokespecial 184, 3) := by decide +kernel
theorem dX10_walker_71 : decode cX10_walker 71 = .ok (.astore 4, 2) := by decide +kernel
theorem dX10_walker_73 : decode cX10_walker 73 = .ok (.aload 4, 2) := by decide +kernel
theorem dX10_walker_75 : decode cX10_walker 75 = .ok (.iload_n 1, 1) := by decide +kernel
theorem dX10_walker_76 : decode cX10_walker 76 = .ok (.aload_n 0, 1) := by decide +kernel
theorem dX10_walker_77 : decode cX10_walker 77 = .ok (.getfield 55, 3) := by decide +kernel
theorem dX10_walker_80 : decode cX10_walker 80 = .ok (.invokevirtual 187, 3) := by decide +kernel
theorem dX10_walker_83 : decode cX10_walker 83 = .ok (.pop, 1) := by decide +kernel
theorem dX10_walker_84 : decode cX10_walker 84 = .ok (.aload_n 0, 1) := by decide +kernel
theorem dX10_walker_85 : decode cX10_walker 85 = .ok (.getfield 31, 3) := by decide +kernel
theorem dX10_walker_88 : decode cX10_walker 88 = .ok (.aload_n 0, 1) := by decide +kernel
theorem dX10_walker_89 : decode cX10_walker 89 = .ok (.getfield 52, 3) := by decide +kernel
theorem dX10_walker_92 : decode cX10_walker 92 = .ok (.aload 4, 2) := by decide +kernel
theorem dX10_walker_94 : decode cX10_walker 94 = .ok (.aastore, 1) := by decide +kernel
theorem dX10_walker_95 : decode cX10_walker 95 = .ok (.aload_n 0, 1) := by decide +kernel
theorem dX10_walker_96 : decode cX10_walker 96 = .ok (.dup, 1) := by decide +kernel
theorem dX10_walker_97 : decode cX10_walker 97 = .ok (.getfield 52, 3) := by decide +kernel
theorem dX10_walker_100 : decode cX10_walker 100 = .ok (.iconst 1, 1) := by decide +kernel
theorem dX10_walker_101 : decode cX10_walker 101 = .ok (.iadd, 1) := by decide +kernel
theorem dX10_walker_102 : decode cX10_walker 102 = .ok (.putfield 52, 3) := by decide +kernel
theorem dX10_walker_105 : decode cX10_walker 105 = .ok (.aload_n 0, 1) := by decide +kernel
theorem dX10_walker_106 : decode cX10_walker 106 = .ok (.getfield 52, 3) := by decide +kernel
theorem dX10_walker_109 : decode cX10_walker 109 = .ok (.iconst 1, 1) := by decide +kernel
theorem dX10_walker_110 : decode cX10_walker 110 = .ok (.isub, 1) := by decide +kernel
theorem dX10_walker_111 : decode cX10_walker 111 = .ok (.ireturn, 1) := by decide +kernel
theorem dX10_today_0 : decode cX10_today 0 = .ok (.iload_n 1, 1) := by decide +kernel
theorem dX10_today_1 : decode cX10_today 1 = .ok (.invokestatic 101, 3) := by decide +kernel
theorem dX10_today_4 : decode cX10_today 4 = .ok (.ifCond .ne 10, 3) := by decide +kernel
theorem dX10_today_7 : decode cX10_today 7 = .ok (.aload_n 0, 1) := by decide +kernel
theorem dX10_today_8 : decode cX10_today 8 = .ok (.ldc 65, 2) := by decide +kernel
theorem dX10_today_10 : decode cX10_today 10 = .ok (.invokevirtual 66, 3) := by decide +kernel
theorem dX10_today_13 : decode cX10_today 13 = .ok (.ireturn, 1) := by decide +kernel
theorem dX10_today_14 : decode cX10_today 14 = .ok (.aload_n 0, 1) := by decide +kernel
theorem dX10_today_15 : decode cX10_today 15 = .ok (.getfield 55, 3) := by decide +kernel
theorem dX10_today_18 : decode cX10_today 18 = .ok (.istore_n 2, 1) := by decide +kernel
theorem dX10_today_19 : decode cX10_today 19 = .ok (.aload_n 0, 1) := by decide +kernel
theorem dX10_today_20 : decode cX10_today 20 = .ok (.iload_n 1, 1) := by decide +kernel
theorem dX10_today_21 : decode cX10_today 21 = .ok (.putfield 55, 3) := by decide +kernel
theorem dX10_today_24 : decode cX10_today 24 = .ok (.iconst 0, 1) := by decide +kernel
theorem dX10_today_25 : decode cX10_today 25 = .ok (.istore_n 3, 1) := by decide +kernel
theorem dX10_today_26 : decode cX10_today 26 = .ok (.iload_n 3, 1) := by decide +kernel
theorem dX10_today_27 : decode cX10_today 27 = .ok (.aload_n 0, 1) := by decide +kernel
theorem dX10_today_28 : decode cX10_today 28 = .ok (.getfield 52, 3) := by decide +kernel
theorem dX10_today_31 : decode cX10_today 31 = .ok (.if_icmp .ge 23, 3) := by decide +kernel
theorem dX10_today_34 : decode cX10_today 34 = .ok (.aload_n 0, 1) := by decide +kernel
theorem dX10_today_35 : decode cX10_today 35 = .ok (.getfield 31, 3) := by decide +kernel
theorem dX10_today_38 : decode cX10_today 38 = .ok (.iload_n 3, 1) := by decide +kernel
theorem dX10_today_39 : decode cX10_today 39 = .ok (.aaload, 1) := by decide +kernel
theorem dX10_today_40 : decode cX10_today 40 = .ok (.aload_n 0, 1) := by decide +kernel
theorem dX10_today_41 : decode cX10_today 41 = .ok (.getfield 55, 3) := by decide +kernel
theorem dX10_today_44 : decode cX10_today 44 = .ok (.invokevirtual 190, 3) := by decide +kernel
theorem dX10_today_47 : decode cX10_today 47 = .ok (.pop, 1) := by decide +kernel
theorem dX10_today_48 : decode cX10_today 48 = .ok (.iinc 3 1, 3) := by decide +kernel
theorem dX10_today_51 : decode cX10_today 51 = .ok (.goto (-25), 3) := by decide +kernel
theorem dX10_today_54 : decode cX10_today 54 = .ok (.iload_n 2, 1) := by decide +kernel
theorem dX10_today_55 : decode cX10_today 55 = .ok (.ireturn, 1) := by decide +kernel
theorem dX10_go_0 : decode cX10_go 0 = .ok (.aload_n 0, 1) := by decide +kernel
theorem dX10_go_1 : decode cX10_go 1 = .ok (.iload_n 1, 1) := by decide +kernel
theorem dX10_go_2 : decode cX10_go 2 = .ok (.invokevirtual 193, 3) := by decide +kernel
theorem dX10_go_5 : decode cX10_go 5 = .ok (.astore_n 3, 1) := by decide +kernel
theorem dX10_go_6 : decode cX10_go 6 = .ok (.aload_n 0, 1) := by decide +kernel
theorem dX10_go_7 : decode cX10_go 7 = .ok (.getfield 10, 3) := by decide +kernel
theorem dX10_go_10 : decode cX10_go 10 = .ok (.iload_n 2, 1) := by decide +kernel
theorem dX10_go_11 : decode cX10_go 11 = .ok (.invokevirtual 94, 3) := by decide +kernel
theorem dX10_go_14 : decode cX10_go 14 = .ok (.astore 4, 2) := by decide +kernel
theorem dX10_go_16 : decode cX10_go 16 = .ok (.aload_n 3, 1) := by decide +kernel
theorem dX10_go_17 : decode cX10_go 17 = .ok (.ifnull 8, 3) := by decide +kernel
theorem dX10_go_20 : decode cX10_go 20 = .ok (.aload 4, 2) := by decide +kernel
theorem dX10_go_22 : decode cX10_go 22 = .ok (.ifnonnull 10, 3) := by decide +kernel
theorem dX10_go_25 : decode cX10_go 25 = .ok (.aload_n 0, 1) := by decide +kernel
theorem dX10_go_26 : decode cX10_go 26 = .ok (.ldc 65, 2) := by decide +kernel
theorem dX10_go_28 : decode cX10_go 28 = .ok (.invokevirtual 66, 3) := by decide +kernel
theorem dX10_go_31 : decode cX10_go 31 = .ok (.ireturn, 1) := by decide +kernel
theorem dX10_go_32 : decode cX10_go 32 = .ok (.aload_n 3, 1) := by decide +kernel
theorem dX10_go_33 : decode cX10_go 33 = .ok (.invokevirtual 197, 3) := by decide +kernel
theorem dX10_go_36 : decode cX10_go 36 = .ok (.ifCond .eq 10, 3) := by decide +kernel
theorem dX10_go_39 : decode cX10_go 39 = .ok (.aload_n 0, 1) := by decide +kernel
theorem dX10_go_40 : decode cX10_go 40 = .ok (.ldc 183, 2) := by decide +kernel
theorem dX10_go_42 : decode cX10_go 42 = .ok (.invokevirtual 66, 3) := by decide +kernel
theorem dX10_go_45 : decode cX10_go 45 = .ok (.ireturn, 1) := by decide +kernel
theorem dX10_go_46 : decode cX10_go 46 = .ok (.aload 4, 2) := by decide +kernel
theorem dX10_go_48 : decode cX10_go 48 = .ok (.aload_n 3, 1) := by decide +kernel
theorem dX10_go_49 : decode cX10_go 49 = .ok (.getfield 201, 3) := by decide +kernel
theorem dX10_go_52 : decode cX10_go 52 = .ok (.invokevirtual 202, 3) := by decide +kernel
theorem dX10_go_55 : decode cX10_go 55 = .ok (.ifCond .eq 15, 3) := by decide +kernel
theorem dX10_go_58 : decode cX10_go 58 = .ok (.aload 4, 2) := by decide +kernel
theorem dX10_go_60 : decode cX10_go 60 = .ok (.aload_n 0, 1) := by decide +kernel
theorem dX10_go_61 : decode cX10_go 61 = .ok (.getfield 55, 3) := by decide +kernel
theorem dX10_go_64 : decode cX10_go 64 = .ok (.invokevirtual 205, 3) := by decide +kernel
theorem dX10_go_67 : decode cX10_go 67 = .ok (.ifCond .eq 10, 3) := by decide +kernel
theorem dX10_go_70 : decode cX10_go 70 = .ok (.aload_n 0, 1) := by decide +kernel
theorem dX10_go_71 : decode cX10_go 71 = .ok (.ldc 175, 2) := by decide +kernel
theorem dX10_go_73 : decode cX10_go 73 = .ok (.invokevirtual 66, 3) := by decide +kernel
theorem dX10_go_76 : decode cX10_go 76 = .ok (.ireturn, 1) := by decide +kernel
theorem dX10_go_77 : decode cX10_go 77 = .ok (.aload 4, 2) := by decide +kernel
theorem dX10_go_79 : decode cX10_go 79 = .ok (.aload_n 3, 1) := by decide +kernel
theorem dX10_go_80 : decode cX10_go 80 = .ok (.getfield 208, 3) := by decide +kernel
theorem dX10_go_83 : decode cX10_go 83 = .ok (.invokevirtual 212, 3) := by decide +kernel
theorem dX10_go_86 : decode cX10_go 86 = .ok (.ifCond .ne 10, 3) := by decide +kernel
theorem dX10_go_89 : decode cX10_go 89 = .ok (.aload_n 0, 1) := by decide +kernel
theorem dX10_go_90 : decode cX10_go 90 = .ok (.ldc 140, 2) := by decide +kernel
theorem dX10_go_92 : decode cX10_go 92 = .ok (.invokevirtual 66, 3) := by decide +kernel
theorem dX10_go_95 : decode cX10_go 95 = .ok (.ireturn, 1) := by decide +kernel
theorem dX10_go_96 : decode cX10_go 96 = .ok (.aload_n 3, 1) := by decide +kernel
theorem dX10_go_97 : decode cX10_go 97 = .ok (.dup, 1) := by decide +kernel
theorem dX10_go_98 : decode cX10_go 98 = .ok (.getfield 216, 3) := by decide +kernel
theorem dX10_go_101 : decode cX10_go 101 = .ok (.aload 4, 2) := by decide +kernel
theorem dX10_go_103 : decode cX10_go 103 = .ok (.getfield 219, 3) := by decide +kernel
theorem dX10_go_106 : decode cX10_go 106 = .ok (.iadd, 1) := by decide +kernel
theorem dX10_go_107 : decode cX10_go 107 = .ok (.putfield 216, 3) := by decide +kernel
theorem dX10_go_110 : decode cX10_go 110 = .ok (.aload_n 3, 1) := by decide +kernel
theorem dX10_go_111 : decode cX10_go 111 = .ok (.aload 4, 2) := by decide +kernel
theorem dX10_go_113 : decode cX10_go 113 = .ok (.aload_n 3, 1) := by decide +kernel
theorem dX10_go_114 : decode cX10_go 114 = .ok (.getfield 201, 3) := by decide +kernel
theorem dX10_go_117 : decode cX10_go 117 = .ok (.invokevirtual 220, 3) := by decide +kernel
theorem dX10_go_120 : decode cX10_go 120 = .ok (.aload_n 0, 1) := by decide +kernel
theorem dX10_go_121 : decode cX10_go 121 = .ok (.getfield 55, 3) := by decide +kernel
theorem dX10_go_124 : decode cX10_go 124 = .ok (.invokevirtual 187, 3) := by decide +kernel
theorem dX10_go_127 : decode cX10_go 127 = .ok (.ireturn, 1) := by decide +kernel
theorem dX10_about_0 : decode cX10_about 0 = .ok (.aload_n 0, 1) := by decide +kernel
theorem dX10_about_1 : decode cX10_about 1 = .ok (.iload_n 1, 1) := by decide +kernel
theorem dX10_about_2 : decode cX10_about 2 = .ok (.invokevirtual 193, 3) := by decide +kernel
theorem dX10_about_5 : decode cX10_about 5 = .ok (.astore_n 3, 1) := by decide +kernel
theorem dX10_about_6 : decode cX10_about 6 = .ok (.aload_n 3, 1) := by decide +kernel
theorem dX10_about_7 : decode cX10_about 7 = .ok (.ifnonnull 10, 3) := by decide +kernel
theorem dX10_about_10 : decode cX10_about 10 = .ok (.aload_n 0, 1) := by decide +kernel
theorem dX10_about_11 : decode cX10_about 11 = .ok (.ldc 65, 2) := by decide +kernel
theorem dX10_about_13 : decode cX10_about 13 = .ok (.invokevirtual 66, 3) := by decide +kernel
theorem dX10_about_16 : decode cX10_about 16 = .ok (.ireturn, 1) := by decide +kernel
theorem dX10_about_17 : decode cX10_about 17 = .ok (.iload_n 2, 1) := by decide +kernel
theorem dX10_about_18 : decode cX10_about 18 = .ok (.tableswitch 76 0 5 #[38, 43, 48, 53, 58, 71], 38) := by decide +kernel
theorem dX10_about_56 : decode cX10_about 56 = .ok (.aload_n 3, 1) := by decide +kernel
theorem dX10_about_57 : decode cX10_about 57 = .ok (.getfield 201, 3) := by decide +kernel
theorem dX10_about_60 : decode cX10_about 60 = .ok (.ireturn, 1) := by decide +kernel
theorem dX10_about_61 : decode cX10_about 61 = .ok (.aload_n 3, 1) := by decide +kernel
theorem dX10_about_62 : decode cX10_about 62 = .ok (.getfield 223, 3) := by decide +kernel
theorem dX10_about_65 : decode cX10_about 65 = .ok (.ireturn, 1) := by decide +kernel
theorem dX10_about_66 : decode cX10_about 66 = .ok (.aload_n 3, 1) := by decide +kernel
theorem dX10_about_67 : decode cX10_about 67 = .ok (.getfield 216, 3) := by decide +kernel
theorem dX10_about_70 : decode cX10_about 70 = .ok (.ireturn, 1) := by decide +kernel
theorem dX10_about_71 : decode cX10_about 71 = .ok (.aload_n 3, 1) := by decide +kernel
theorem dX10_about_72 : decode cX10_about 72 = .ok (.getfield 226, 3) := by decide +kernel
theorem dX10_about_75 : decode cX10_about 75 = .ok (.ireturn, 1) := by decide +kernel
theorem dX10_about_76 : decode cX10_about 76 = .ok (.aload_n 3, 1) := by decide +kernel
theorem dX10_about_77 : decode cX10_about 77 = .ok (.invokevirtual 197, 3) := by decide +kernel
theorem dX10_about_80 : decode cX10_about 80 = .ok (.ifCond .eq 7, 3) := by decide +kernel
theorem dX10_about_83 : decode cX10_about 83 = .ok (.iconst 1, 1) := by decide +kernel
theorem dX10_about_84 : decode cX10_about 84 = .ok (.goto 4, 3) := by decide +kernel
theorem dX10_about_87 : decode cX10_about 87 = .ok (.iconst 0, 1) := by decide +kernel
theorem dX10_about_88 : decode cX10_about 88 = .ok (.ireturn, 1) := by decide +kernel
theorem dX10_about_89 : decode cX10_about 89 = .ok (.aload_n 3, 1) := by decide +kernel
theorem dX10_about_90 : decode cX10_about 90 = .ok (.getfield 229, 3) := by decide +kernel
theorem dX10_about_93 : decode cX10_about 93 = .ok (.ireturn, 1) := by decide +kernel
theorem dX10_about_94 : decode cX10_about 94 = .ok (.aload_n 0, 1) := by decide +kernel
theorem dX10_about_95 : decode cX10_about 95 = .ok (.ldc 65, 2) := by decide +kernel
theorem dX10_about_97 : decode cX10_about 97 = .ok (.invokevirtual 66, 3) := by decide +kernel
theorem dX10_about_100 : decode cX10_about 100 = .ok (.ireturn, 1) := by decide +kernel
theorem dX10_offer_0 : decode cX10_offer 0 = .ok (.aload_n 0, 1) := by decide +kernel
theorem dX10_offer_1 : decode cX10_offer 1 = .ok (.iload_n 1, 1) := by decide +kernel
theorem dX10_offer_2 : decode cX10_offer 2 = .ok (.invokevirtual 193, 3) := by decide +kernel
theorem dX10_offer_5 : decode cX10_offer 5 = .ok (.astore_n 2, 1) := by decide +kernel
theorem dX10_offer_6 : decode cX10_offer 6 = .ok (.aload_n 2, 1) := by decide +kernel
theorem dX10_offer_7 : decode cX10_offer 7 = .ok (.ifnonnull 10, 3) := by decide +kernel
theorem dX10_offer_10 : decode cX10_offer 10 = .ok (.aload_n 0, 1) := by decide +kernel
theorem dX10_offer_11 : decode cX10_offer 11 = .ok (.ldc 65, 2) := by decide +kernel
theorem dX10_offer_13 : decode cX10_offer 13 = .ok (.invokevirtual 66, 3) := by decide +kernel
theorem dX10_offer_16 : decode cX10_offer 16 = .ok (.ireturn, 1) := by decide +kernel
theorem dX10_offer_17 : decode cX10_offer 17 = .ok (.aload_n 2, 1) := by decide +kernel
theorem dX10_offer_18 : decode cX10_offer 18 = .ok (.invokevirtual 197, 3) := by decide +kernel
theorem dX10_offer_21 : decode cX10_offer 21 = .ok (.ifCond .eq 10, 3) := by decide +kernel
theorem dX10_offer_24 : decode cX10_offer 24 = .ok (.aload_n 0, 1) := by decide +kernel
theorem dX10_offer_25 : decode cX10_offer 25 = .ok (.ldc 183, 2) := by decide +kernel
theorem dX10_offer_27 : decode cX10_offer 27 = .ok (.invokevirtual 66, 3) := by decide +kernel
theorem dX10_offer_30 : decode cX10_offer 30 = .ok (.ireturn, 1) := by decide +kernel
theorem dX10_offer_31 : decode cX10_offer 31 = .ok (.aload_n 0, 1) := by decide +kernel
theorem dX10_offer_32 : decode cX10_offer 32 = .ok (.aload_n 2, 1) := by decide +kernel
theorem dX10_offer_33 : decode cX10_offer 33 = .ok (.invokevirtual 232, 3) := by decide +kernel
theorem dX10_offer_36 : decode cX10_offer 36 = .ok (.aload_n 0, 1) := by decide +kernel
theorem dX10_offer_37 : decode cX10_offer 37 = .ok (.aload_n 2, 1) := by decide +kernel
theorem dX10_offer_38 : decode cX10_offer 38 = .ok (.invokevirtual 236, 3) := by decide +kernel
theorem dX10_offer_41 : decode cX10_offer 41 = .ok (.istore_n 3, 1) := by decide +kernel
theorem dX10_offer_42 : decode cX10_offer 42 = .ok (.iload_n 3, 1) := by decide +kernel
theorem dX10_offer_43 : decode cX10_offer 43 = .ok (.ifCond .lt 7, 3) := by decide +kernel
theorem dX10_offer_46 : decode cX10_offer 46 = .ok (.iload_n 3, 1) := by decide +kernel
theorem dX10_offer_47 : decode cX10_offer 47 = .ok (.goto 9, 3) := by decide +kernel
theorem dX10_offer_50 : decode cX10_offer 50 = .ok (.aload_n 0, 1) := by decide +kernel
theorem dX10_offer_51 : decode cX10_offer 51 = .ok (.ldc 175, 2) := by decide +kernel
theorem dX10_offer_53 : decode cX10_offer 53 = .ok (.invokevirtual 66, 3) := by decide +kernel
theorem dX10_offer_56 : decode cX10_offer 56 = .ok (.ireturn, 1) := by decide +kernel
theorem dX10_rest_0 : decode cX10_rest 0 = .ok (.aload_n 0, 1) := by decide +kernel
theorem dX10_rest_1 : decode cX10_rest 1 = .ok (.iload_n 1, 1) := by decide +kernel
theorem dX10_rest_2 : decode cX10_rest 2 = .ok (.invokevirtual 193, 3) := by decide +kernel
theorem dX10_rest_5 : decode cX10_rest 5 = .ok (.astore_n 2, 1) := by decide +kernel
theorem dX10_rest_6 : decode cX10_rest 6 = .ok (.aload_n 2, 1) := by decide +kernel
theorem dX10_rest_7 : decode cX10_rest 7 = .ok (.ifnonnull 10, 3) := by decide +kernel
theorem dX10_rest_10 : decode cX10_rest 10 = .ok (.aload_n 0, 1) := by decide +kernel
theorem dX10_rest_11 : decode cX10_rest 11 = .ok (.ldc 65, 2) := by decide +kernel
theorem dX10_rest_13 : decode cX10_rest 13 = .ok (.invokevirtual 66, 3) := by decide +kernel
theorem dX10_rest_16 : decode cX10_rest 16 = .ok (.ireturn, 1) := by decide +kernel
theorem dX10_rest_17 : decode cX10_rest 17 = .ok (.aload_n 0, 1) := by decide +kernel
theorem dX10_rest_18 : decode cX10_rest 18 = .ok (.aload_n 2, 1) := by decide +kernel
theorem dX10_rest_19 : decode cX10_rest 19 = .ok (.invokevirtual 232, 3) := by decide +kernel
theorem dX10_rest_22 : decode cX10_rest 22 = .ok (.aload_n 0, 1) := by decide +kernel
theorem dX10_rest_23 : decode cX10_rest 23 = .ok (.aload_n 0, 1) := by decide +kernel
theorem dX10_rest_24 : decode cX10_rest 24 = .ok (.getfield 44, 3) := by decide +kernel
theorem dX10_rest_27 : decode cX10_rest 27 = .ok (.aload_n 2, 1) := by decide +kernel
theorem dX10_rest_28 : decode cX10_rest 28 = .ok (.getfield 201, 3) := by decide +kernel
theorem dX10_rest_31 : decode cX10_rest 31 = .ok (.aload_n 2, 1) := by decide +kernel
theorem dX10_rest_32 : decode cX10_rest 32 = .ok (.getfield 223, 3) := by decide +kernel
theorem dX10_rest_35 : decode cX10_rest 35 = .ok (.invokevirtual 171, 3) := by decide +kernel
theorem dX10_rest_38 : decode cX10_rest 38 = .ok (.invokevirtual 108, 3) := by decide +kernel
theorem dX10_rest_41 : decode cX10_rest 41 = .ok (.ireturn, 1) := by decide +kernel
theorem dX10_lost_0 : decode cX10_lost 0 = .ok (.aload_n 0, 1) := by decide +kernel
theorem dX10_lost_1 : decode cX10_lost 1 = .ok (.iload_n 1, 1) := by decide +kernel
theorem dX10_lost_2 : decode cX10_lost 2 = .ok (.invokevirtual 193, 3) := by decide +kernel
theorem dX10_lost_5 : decode cX10_lost 5 = .ok (.astore_n 2, 1) := by decide +kernel
theorem dX10_lost_6 : decode cX10_lost 6 = .ok (.aload_n 2, 1) := by decide +kernel
theorem dX10_lost_7 : decode cX10_lost 7 = .ok (.ifnonnull 10, 3) := by decide +kernel
theorem dX10_lost_10 : decode cX10_lost 10 = .ok (.aload_n 0, 1) := by decide +kernel
theorem dX10_lost_11 : decode cX10_lost 11 = .ok (.ldc 65, 2) := by decide +kernel
theorem dX10_lost_13 : decode cX10_lost 13 = .ok (.invokevirtual 66, 3) := by decide +kernel
theorem dX10_lost_16 : decode cX10_lost 16 = .ok (.ireturn, 1) := by decide +kernel
theorem dX10_lost_17 : decode cX10_lost 17 = .ok (.aload_n 0, 1) := by decide +kernel
theorem dX10_lost_18 : decode cX10_lost 18 = .ok (.aload_n 2, 1) := by decide +kernel
theorem dX10_lost_19 : decode cX10_lost 19 = .ok (.invokevirtual 232, 3) := by decide +kernel
theorem dX10_lost_22 : decode cX10_lost 22 = .ok (.aload_n 2, 1) := by decide +kernel
theorem dX10_lost_23 : decode cX10_lost 23 = .ok (.getfield 240, 3) := by decide +kernel
theorem dX10_lost_26 : decode cX10_lost 26 = .ok (.invokevirtual 244, 3) := by decide +kernel
theorem dX10_lost_29 : decode cX10_lost 29 = .ok (.aload_n 0, 1) := by decide +kernel
theorem dX10_lost_30 : decode cX10_lost 30 = .ok (.getfield 44, 3) := by decide +kernel
theorem dX10_lost_33 : decode cX10_lost 33 = .ok (.invokevirtual 168, 3) := by decide +kernel
theorem dX10_lost_36 : decode cX10_lost 36 = .ok (.iconst (-1), 1) := by decide +kernel
theorem dX10_lost_37 : decode cX10_lost 37 = .ok (.ixor, 1) := by decide +kernel
theorem dX10_lost_38 : decode cX10_lost 38 = .ok (.iand, 1) := by decide +kernel
theorem dX10_lost_39 : decode cX10_lost 39 = .ok (.ireturn, 1) := by decide +kernel
theorem dX10_seen_0 : decode cX10_seen 0 = .ok (.aload_n 0, 1) := by decide +kernel
theorem dX10_seen_1 : decode cX10_seen 1 = .ok (.iload_n 1, 1) := by decide +kernel
theorem dX10_seen_2 : decode cX10_seen 2 = .ok (.invokevirtual 193, 3) := by decide +kernel
theorem dX10_seen_5 : decode cX10_seen 5 = .ok (.astore 5, 2) := by decide +kernel
theorem dX10_seen_7 : decode cX10_seen 7 = .ok (.aload 5, 2) := by decide +kernel
theorem dX10_seen_9 : decode cX10_seen 9 = .ok (.ifnull 11, 3) := by decide +kernel
theorem dX10_seen_12 : decode cX10_seen 12 = .ok (.iload 4, 2) := by decide +kernel
theorem dX10_seen_14 : decode cX10_seen 14 = .ok (.invokestatic 247, 3) := by decide +kernel
theorem dX10_seen_17 : decode cX10_seen 17 = .ok (.ifCond .ne 10, 3) := by decide +kernel
theorem dX10_seen_20 : decode cX10_seen 20 = .ok (.aload_n 0, 1) := by decide +kernel
theorem dX10_seen_21 : decode cX10_seen 21 = .ok (.ldc 65, 2) := by decide +kernel
theorem dX10_seen_23 : decode cX10_seen 23 = .ok (.invokevirtual 66, 3) := by decide +kernel
theorem dX10_seen_26 : decode cX10_seen 26 = .ok (.ireturn, 1) := by decide +kernel
theorem dX10_seen_27 : decode cX10_seen 27 = .ok (.aload 5, 2) := by decide +kernel
theorem dX10_seen_29 : decode cX10_seen 29 = .ok (.invokevirtual 197, 3) := by decide +kernel
theorem dX10_seen_32 : decode cX10_seen 32 = .ok (.ifCond .eq 10, 3) := by decide +kernel
theorem dX10_seen_35 : decode cX10_seen 35 = .ok (.aload_n 0, 1) := by decide +kernel
theorem dX10_seen_36 : decode cX10_seen 36 = .ok (.ldc 183, 2) := by decide +kernel
theorem dX10_seen_38 : decode cX10_seen 38 = .ok (.invokevirtual 66, 3) := by decide +kernel
theorem dX10_seen_41 : decode cX10_seen 41 = .ok (.ireturn, 1) := by decide +kernel
theorem dX10_seen_42 : decode cX10_seen 42 = .ok (.aload 5, 2) := by decide +kernel
theorem dX10_seen_44 : decode cX10_seen 44 = .ok (.aload_n 0, 1) := by decide +kernel
theorem dX10_seen_45 : decode cX10_seen 45 = .ok (.getfield 10, 3) := by decide +kernel
theorem dX10_seen_48 : decode cX10_seen 48 = .ok (.aload_n 0, 1) := by decide +kernel
theorem dX10_seen_49 : decode cX10_seen 49 = .ok (.getfield 55, 3) := by decide +kernel
theorem dX10_seen_52 : decode cX10_seen 52 = .ok (.iload_n 2, 1) := by decide +kernel
theorem dX10_seen_53 : decode cX10_seen 53 = .ok (.iload_n 3, 1) := by decide +kernel
theorem dX10_seen_54 : decode cX10_seen 54 = .ok (.iload 4, 2) := by decide +kernel
theorem dX10_seen_56 : decode cX10_seen 56 = .ok (.invokevirtual 250, 3) := by decide +kernel
theorem dX10_seen_59 : decode cX10_seen 59 = .ok (.aload 5, 2) := by decide +kernel
theorem dX10_seen_61 : decode cX10_seen 61 = .ok (.getfield 201, 3) := by decide +kernel
theorem dX10_seen_64 : decode cX10_seen 64 = .ok (.ireturn, 1) := by decide +kernel
theorem dX10_sheet_0 : decode cX10_sheet 0 = .ok (.iload_n 1, 1) := by decide +kernel
theorem dX10_sheet_1 : decode cX10_sheet 1 = .ok (.invokestatic 254, 3) := by decide +kernel
theorem dX10_sheet_4 : decode cX10_sheet 4 = .ok (.ifCond .eq 10, 3) := by decide +kernel
theorem dX10_sheet_7 : decode cX10_sheet 7 = .ok (.iload_n 2, 1) := by decide +kernel
theorem dX10_sheet_8 : decode cX10_sheet 8 = .ok (.invokestatic 257, 3) := by decide +kernel
theorem dX10_sheet_11 : decode cX10_sheet 11 = .ok (.ifCond .ne 10, 3) := by decide +kernel
theorem dX10_sheet_14 : decode cX10_sheet 14 = .ok (.aload_n 0, 1) := by decide +kernel
theorem dX10_sheet_15 : decode cX10_sheet 15 = .ok (.ldc 65, 2) := by decide +kernel
theorem dX10_sheet_17 : decode cX10_sheet 17 = .ok (.invokevirtual 66, 3) := by decide +kernel
theorem dX10_sheet_20 : decode cX10_sheet 20 = .ok (.ireturn, 1) := by decide +kernel
theorem dX10_sheet_21 : decode cX10_sheet 21 = .ok (.iload_n 3, 1) := by decide +kernel
theorem dX10_sheet_22 : decode cX10_sheet 22 = .ok (.ifCond .ge 11, 3) := by decide +kernel
theorem dX10_sheet_25 : decode cX10_sheet 25 = .ok (.aload_n 0, 1) := by decide +kernel
theorem dX10_sheet_26 : decode cX10_sheet 26 = .ok (.ldc_w 260, 3) := by decide +kernel
theorem dX10_sheet_29 : decode cX10_sheet 29 = .ok (.invokevirtual 66, 3) := by decide +kernel
theorem dX10_sheet_32 : decode cX10_sheet 32 = .ok (.ireturn, 1) := by decide +kernel
theorem dX10_sheet_33 : decode cX10_sheet 33 = .ok (.iload_n 3, 1) := by decide +kernel
theorem dX10_sheet_34 : decode cX10_sheet 34 = .ok (.bipush 12, 2) := by decide +kernel
theorem dX10_sheet_36 : decode cX10_sheet 36 = .ok (.if_icmp .le 10, 3) := by decide +kernel
theorem dX10_sheet_39 : decode cX10_sheet 39 = .ok (.aload_n 0, 1) := by decide +kernel
theorem dX10_sheet_40 : decode cX10_sheet 40 = .ok (.ldc 65, 2) := by decide +kernel
theorem dX10_sheet_42 : decode cX10_sheet 42 = .ok (.invokevirtual 66, 3) := by decide +kernel
theorem dX10_sheet_45 : decode cX10_sheet 45 = .ok (.ireturn, 1) := by decide +kernel
theorem dX10_sheet_46 : decode cX10_sheet 46 = .ok (.iload_n 2, 1) := by decide +kernel
theorem dX10_sheet_47 : decode cX10_sheet 47 = .ok (.ifCond .ne 12, 3) := by decide +kernel
theorem dX10_sheet_50 : decode cX10_sheet 50 = .ok (.aload_n 0, 1) := by decide +kernel
theorem dX10_sheet_51 : decode cX10_sheet 51 = .ok (.getfield 37, 3) := by decide +kernel
theorem dX10_sheet_54 : decode cX10_sheet 54 = .ok (.iload_n 1, 1) := by decide +kernel
theorem dX10_sheet_55 : decode cX10_sheet 55 = .ok (.aconst_null, 1) := by decide +kernel
theorem dX10_sheet_56 : decode cX10_sheet 56 = .ok (.aastore, 1) := by decide +kernel
theorem dX10_sheet_57 : decode cX10_sheet 57 = .ok (.iconst 0, 1) := by decide +kernel
theorem dX10_sheet_58 : decode cX10_sheet 58 = .ok (.ireturn, 1) := by decide +kernel
theorem dX10_sheet_59 : decode cX10_sheet 59 = .ok (.aload_n 0, 1) := by decide +kernel
theorem dX10_sheet_60 : decode cX10_sheet 60 = .ok (.getfield 37, 3) := by decide +kernel
theorem dX10_sheet_63 : decode cX10_sheet 63 = .ok (.iload_n 1, 1) := by decide +kernel
theorem dX10_sheet_64 : decode cX10_sheet 64 = .ok (.new 35, 3) := by decide +kernel
theorem dX10_sheet_67 : decode cX10_sheet 67 = .ok (.dup, 1) := by decide +kernel
theorem dX10_sheet_68 : decode cX10_sheet 68 = .ok (.iload_n 2, 1) := by decide +kernel
theorem dX10_sheet_69 : decode cX10_sheet 69 = .ok (.iload_n 3, 1) := by decide +kernel
theorem dX10_sheet_70 : decode cX10_sheet 70 = .ok (.invokespecial 261, 3) := by decide +kernel
theorem dX10_sheet_73 : decode cX10_sheet 73 = .ok (.aastore, 1) := by decide +kernel
theorem dX10_sheet_74 : decode cX10_sheet 74 = .ok (.iload_n 3, 1) := by decide +kernel
theorem dX10_sheet_75 : decode cX10_sheet 75 = .ok (.ireturn, 1) := by decide +kernel
theorem dX10_write_0 : decode cX10_write 0 = .ok (.iload_n 1, 1) := by decide +kernel
theorem dX10_write_1 : decode cX10_write 1 = .ok (.invokestatic 254, 3) := by decide +kernel
theorem dX10_write_4 : decode cX10_write 4 = .ok (.ifCond .ne 10, 3) := by decide +kernel
theorem dX10_write_7 : decode cX10_write 7 = .ok (.aload_n 0, 1) := by decide +kernel
theorem dX10_write_8 : decode cX10_write 8 = .ok (.ldc 65, 2) := by decide +kernel
theorem dX10_write_10 : decode cX10_write 10 = .ok (.invokevirtual 66, 3) := by decide +kernel
theorem dX10_write_13 : decode cX10_write 13 = .ok (.ireturn, 1) := by decide +kernel
theorem dX10_write_14 : decode cX10_write 14 = .ok (.aload_n 0, 1) := by decide +kernel
theorem dX10_write_15 : decode cX10_write 15 = .ok (.getfield 37, 3) := by decide +kernel
theorem dX10_write_18 : decode cX10_write 18 = .ok (.iload_n 1, 1) := by decide +kernel
theorem dX10_write_19 : decode cX10_write 19 = .ok (.aaload, 1) := by decide +kernel
theorem dX10_write_20 : decode cX10_write 20 = .ok (.astore 4, 2) := by decide +kernel
theorem dX10_write_22 : decode cX10_write 22 = .ok (.aload 4, 2) := by decide +kernel
theorem dX10_write_24 : decode cX10_write 24 = .ok (.ifnonnull 11, 3) := by decide +kernel
theorem dX10_write_27 : decode cX10_write 27 = .ok (.aload_n 0, 1) := by decide +kernel
theorem dX10_write_28 : decode cX10_write 28 = .ok (.ldc_w 264, 3) := by decide +kernel
theorem dX10_write_31 : decode cX10_write 31 = .ok (.invokevirtual 66, 3) := by decide +kernel
theorem dX10_write_34 : decode cX10_write 34 = .ok (.ireturn, 1) := by decide +kernel
theorem dX10_write_35 : decode cX10_write 35 = .ok (.iload_n 2, 1) := by decide +kernel
theorem dX10_write_36 : decode cX10_write 36 = .ok (.iconst 0, 1) := by decide +kernel
theorem dX10_write_37 : decode cX10_write 37 = .ok (.aload 4, 2) := by decide +kernel
theorem dX10_write_39 : decode cX10_write 39 = .ok (.getfield 265, 3) := by decide +kernel
theorem dX10_write_42 : decode cX10_write 42 = .ok (.arraylength, 1) := by decide +kernel
theorem dX10_write_43 : decode cX10_write 43 = .ok (.iconst 1, 1) := by decide +kernel
theorem dX10_write_44 : decode cX10_write 44 = .ok (.isub, 1) := by decide +kernel
theorem dX10_write_45 : decode cX10_write 45 = .ok (.invokestatic 61, 3) := by decide +kernel
theorem dX10_write_48 : decode cX10_write 48 = .ok (.ifCond .ne 10, 3) := by decide +kernel
theorem dX10_write_51 : decode cX10_write 51 = .ok (.aload_n 0, 1) := by decide +kernel
theorem dX10_write_52 : decode cX10_write 52 = .ok (.ldc 65, 2) := by decide +kernel
theorem dX10_write_54 : decode cX10_write 54 = .ok (.invokevirtual 66, 3) := by decide +kernel
theorem dX10_write_57 : decode cX10_write 57 = .ok (.ireturn, 1) := by decide +kernel
theorem dX10_write_58 : decode cX10_write 58 = .ok (.aload 4, 2) := by decide +kernel
theorem dX10_write_60 : decode cX10_write 60 = .ok (.getfield 265, 3) := by decide +kernel
theorem dX10_write_63 : decode cX10_write 63 = .ok (.iload_n 2, 1) := by decide +kernel
theorem dX10_write_64 : decode cX10_write 64 = .ok (.iaload, 1) := by decide +kernel
theorem dX10_write_65 : decode cX10_write 65 = .ok (.istore 5, 2) := by decide +kernel
theorem dX10_write_67 : decode cX10_write 67 = .ok (.aload 4, 2) := by decide +kernel
theorem dX10_write_69 : decode cX10_write 69 = .ok (.getfield 265, 3) := by decide +kernel
theorem dX10_write_72 : decode cX10_write 72 = .ok (.iload_n 2, 1) := by decide +kernel
theorem dX10_write_73 : decode cX10_write 73 = .ok (.aload 4, 2) := by decide +kernel
theorem dX10_write_75 : decode cX10_write 75 = .ok (.iload_n 3, 1) := by decide +kernel
theorem dX10_write_76 : decode cX10_write 76 = .ok (.invokevirtual 269, 3) := by decide +kernel
theorem dX10_write_79 : decode cX10_write 79 = .ok (.iastore, 1) := by decide +kernel
theorem dX10_write_80 : decode cX10_write 80 = .ok (.iload 5, 2) := by decide +kernel
theorem dX10_write_82 : decode cX10_write 82 = .ok (.ireturn, 1) := by decide +kernel
theorem dX10_copy_0 : decode cX10_copy 0 = .ok (.iload_n 1, 1) := by decide +kernel
theorem dX10_copy_1 : decode cX10_copy 1 = .ok (.invokestatic 254, 3) := by decide +kernel
theorem dX10_copy_4 : decode cX10_copy 4 = .ok (.ifCond .eq 10, 3) := by decide +kernel
theorem dX10_copy_7 : decode cX10_copy 7 = .ok (.iload_n 3, 1) := by decide +kernel
theorem dX10_copy_8 : decode cX10_copy 8 = .ok (.invokestatic 254, 3) := by decide +kernel
theorem dX10_copy_11 : decode cX10_copy 11 = .ok (.ifCond .ne 10, 3) := by decide +kernel
theorem dX10_copy_14 : decode cX10_copy 14 = .ok (.aload_n 0, 1) := by decide +kernel
theorem dX10_copy_15 : decode cX10_copy 15 = .ok (.ldc 65, 2) := by decide +kernel
theorem dX10_copy_17 : decode cX10_copy 17 = .ok (.invokevirtual 66, 3) := by decide +kernel
theorem dX10_copy_20 : decode cX10_copy 20 = .ok (.ireturn, 1) := by decide +kernel
theorem dX10_copy_21 : decode cX10_copy 21 = .ok (.aload_n 0, 1) := by decide +kernel
theorem dX10_copy_22 : decode cX10_copy 22 = .ok (.getfield 37, 3) := by decide +kernel
theorem dX10_copy_25 : decode cX10_copy 25 = .ok (.iload_n 1, 1) := by decide +kernel
theorem dX10_copy_26 : decode cX10_copy 26 = .ok (.aaload, 1) := by decide +kernel
theorem dX10_copy_27 : decode cX10_copy 27 = .ok (.astore 6, 2) := by decide +kernel
theorem dX10_copy_29 : decode cX10_copy 29 = .ok (.aload_n 0, 1) := by decide +kernel
theorem dX10_copy_30 : decode cX10_copy 30 = .ok (.getfield 37, 3) := by decide +kernel
theorem dX10_copy_33 : decode cX10_copy 33 = .ok (.iload_n 3, 1) := by decide +kernel
theorem dX10_copy_34 : decode cX10_copy 34 = .ok (.aaload, 1) := by decide +kernel
theorem dX10_copy_35 : decode cX10_copy 35 = .ok (.astore 7, 2) := by decide +kernel
theorem dX10_copy_37 : decode cX10_copy 37 = .ok (.aload 6, 2) := by decide +kernel
theorem dX10_copy_39 : decode cX10_copy 39 = .ok (.ifnull 8, 3) := by decide +kernel
theorem dX10_copy_42 : decode cX10_copy 42 = .ok (.aload 7, 2) := by decide +kernel
theorem dX10_copy_44 : decode cX10_copy 44 = .ok (.ifnonnull 11, 3) := by decide +kernel
theorem dX10_copy_47 : decode cX10_copy 47 = .ok (.aload_n 0, 1) := by decide +kernel
theorem dX10_copy_48 : decode cX10_copy 48 = .ok (.ldc_w 264, 3) := by decide +kernel
theorem dX10_copy_51 : decode cX10_copy 51 = .ok (.invokevirtual 66, 3) := by decide +kernel
theorem dX10_copy_54 : decode cX10_copy 54 = .ok (.ireturn, 1) := by decide +kernel
theorem dX10_copy_55 : decode cX10_copy 55 = .ok (.aload 6, 2) := by decide +kernel
theorem dX10_copy_57 : decode cX10_copy 57 = .ok (.getfield 272, 3) := by decide +kernel
theorem dX10_copy_60 : decode cX10_copy 60 = .ok (.aload 7, 2) := by decide +kernel
theorem dX10_copy_62 : decode cX10_copy 62 = .ok (.getfield 272, 3) := by decide +kernel
theorem dX10_copy_65 : decode cX10_copy 65 = .ok (.if_icmp .eq 10, 3) := by decide +kernel
theorem dX10_copy_68 : decode cX10_copy 68 = .ok (.aload_n 0, 1) := by decide +kernel
theorem dX10_copy_69 : decode cX10_copy 69 = .ok (.ldc 140, 2) := by decide +kernel
theorem dX10_copy_71 : decode cX10_copy 71 = .ok (.invokevirtual 66, 3) := by decide +kernel
theorem dX10_copy_74 : decode cX10_copy 74 = .ok (.ireturn, 1) := by decide +kernel
theorem dX10_copy_75 : decode cX10_copy 75 = .ok (.aload 6, 2) := by decide +kernel
theorem dX10_copy_77 : decode cX10_copy 77 = .ok (.iload_n 2, 1) := by decide +kernel
theorem dX10_copy_78 : decode cX10_copy 78 = .ok (.iload 5, 2) := by decide +kernel
theorem dX10_copy_80 : decode cX10_copy 80 = .ok (.invokevirtual 275, 3) := by decide +kernel
theorem dX10_copy_83 : decode cX10_copy 83 = .ok (.ifCond .eq 15, 3) := by decide +kernel
theorem dX10_copy_86 : decode cX10_copy 86 = .ok (.aload 7, 2) := by decide +kernel
theorem dX10_copy_88 : decode cX10_copy 88 = .ok (.iload 4, 2) := by decide +kernel
theorem dX10_copy_90 : decode cX10_copy 90 = .ok (.iload 5, 2) := by decide +kernel
theorem dX10_copy_92 : decode cX10_copy 92 = .ok (.invokevirtual 275, 3) := by decide +kernel
theorem dX10_copy_95 : decode cX10_copy 95 = .ok (.ifCond .ne 10, 3) := by decide +kernel
theorem dX10_copy_98 : decode cX10_copy 98 = .ok (.aload_n 0, 1) := by decide +kernel
theorem dX10_copy_99 : decode cX10_copy 99 = .ok (.ldc 65, 2) := by decide +kernel
theorem dX10_copy_101 : decode cX10_copy 101 = .ok (.invokevirtual 66, 3) := by decide +kernel
theorem dX10_copy_104 : decode cX10_copy 104 = .ok (.ireturn, 1) := by decide +kernel
theorem dX10_copy_105 : decode cX10_copy 105 = .ok (.aload 6, 2) := by decide +kernel
theorem dX10_copy_107 : decode cX10_copy 107 = .ok (.getfield 265, 3) := by decide +kernel
theorem dX10_copy_110 : decode cX10_copy 110 = .ok (.iload_n 2, 1) := by decide +kernel
theorem dX10_copy_111 : decode cX10_copy 111 = .ok (.aload 7, 2) := by decide +kernel
theorem dX10_copy_113 : decode cX10_copy 113 = .ok (.getfield 265, 3) := by decide +kernel
theorem dX10_copy_116 : decode cX10_copy 116 = .ok (.iload 4, 2) := by decide +kernel
theorem dX10_copy_118 : decode cX10_copy 118 = .ok (.iload 5, 2) := by decide +kernel
theorem dX10_copy_120 : decode cX10_copy 120 = .ok (.invokestatic 279, 3) := by decide +kernel
theorem dX10_copy_123 : decode cX10_copy 123 = .ok (.iload 5, 2) := by decide +kernel
theorem dX10_copy_125 : decode cX10_copy 125 = .ok (.ireturn, 1) := by decide +kernel
theorem dX10_trace_0 : decode cX10_trace 0 = .ok (.aload_n 0, 1) := by decide +kernel
theorem dX10_trace_1 : decode cX10_trace 1 = .ok (.iload_n 2, 1) := by decide +kernel
theorem dX10_trace_2 : decode cX10_trace 2 = .ok (.invokevirtual 193, 3) := by decide +kernel
theorem dX10_trace_5 : decode cX10_trace 5 = .ok (.astore_n 3, 1) := by decide +kernel
theorem dX10_trace_6 : decode cX10_trace 6 = .ok (.iload_n 1, 1) := by decide +kernel
theorem dX10_trace_7 : decode cX10_trace 7 = .ok (.invokestatic 254, 3) := by decide +kernel
theorem dX10_trace_10 : decode cX10_trace 10 = .ok (.ifCond .eq 7, 3) := by decide +kernel
theorem dX10_trace_13 : decode cX10_trace 13 = .ok (.aload_n 3, 1) := by decide +kernel
theorem dX10_trace_14 : decode cX10_trace 14 = .ok (.ifnonnull 10, 3) := by decide +kernel
theorem dX10_trace_17 : decode cX10_trace 17 = .ok (.aload_n 0, 1) := by decide +kernel
theorem dX10_trace_18 : decode cX10_trace 18 = .ok (.ldc 65, 2) := by decide +kernel
theorem dX10_trace_20 : decode cX10_trace 20 = .ok (.invokevirtual 66, 3) := by decide +kernel
theorem dX10_trace_23 : decode cX10_trace 23 = .ok (.ireturn, 1) := by decide +kernel
theorem dX10_trace_24 : decode cX10_trace 24 = .ok (.aload_n 0, 1) := by decide +kernel
theorem dX10_trace_25 : decode cX10_trace 25 = .ok (.getfield 37, 3) := by decide +kernel
theorem dX10_trace_28 : decode cX10_trace 28 = .ok (.iload_n 1, 1) := by decide +kernel
theorem dX10_trace_29 : decode cX10_trace 29 = .ok (.aaload, 1) := by decide +kernel
theorem dX10_trace_30 : decode cX10_trace 30 = .ok (.astore 4, 2) := by decide +kernel
theorem dX10_trace_32 : decode cX10_trace 32 = .ok (.aload 4, 2) := by decide +kernel
theorem dX10_trace_34 : decode cX10_trace 34 = .ok (.ifnonnull 11, 3) := by decide +kernel
theorem dX10_trace_37 : decode cX10_trace 37 = .ok (.aload_n 0, 1) := by decide +kernel
theorem dX10_trace_38 : decode cX10_trace 38 = .ok (.ldc_w 264, 3) := by decide +kernel
theorem dX10_trace_41 : decode cX10_trace 41 = .ok (.invokevirtual 66, 3) := by decide +kernel
theorem dX10_trace_44 : decode cX10_trace 44 = .ok (.ireturn, 1) := by decide +kernel
theorem dX10_trace_45 : decode cX10_trace 45 = .ok (.aload 4, 2) := by decide +kernel
theorem dX10_trace_47 : decode cX10_trace 47 = .ok (.getfield 265, 3) := by decide +kernel
theorem dX10_trace_50 : decode cX10_trace 50 = .ok (.astore 5, 2) := by decide +kernel
theorem dX10_trace_52 : decode cX10_trace 52 = .ok (.iconst 0, 1) := by decide +kernel
theorem dX10_trace_53 : decode cX10_trace 53 = .ok (.istore 6, 2) := by decide +kernel
theorem dX10_trace_55 : decode cX10_trace 55 = .ok (.iconst 0, 1) := by decide +kernel
theorem dX10_trace_56 : decode cX10_trace 56 = .ok (.istore 7, 2) := by decide +kernel
theorem dX10_trace_58 : decode cX10_trace 58 = .ok (.iload 7, 2) := by decide +kernel
theorem dX10_trace_60 : decode cX10_trace 60 = .ok (.iconst 2, 1) := by decide +kernel
theorem dX10_trace_61 : decode cX10_trace 61 = .ok (.iadd, 1) := by decide +kernel
theorem dX10_trace_62 : decode cX10_trace 62 = .ok (.aload 5, 2) := by decide +kernel
theorem dX10_trace_64 : decode cX10_trace 64 = .ok (.arraylength, 1) := by decide +kernel
theorem dX10_trace_65 : decode cX10_trace 65 = .ok (.if_icmp .ge 66, 3) := by decide +kernel
theorem dX10_trace_68 : decode cX10_trace 68 = .ok (.aload_n 3, 1) := by decide +kernel
theorem dX10_trace_69 : decode cX10_trace 69 = .ok (.invokevirtual 197, 3) := by decide +kernel
theorem dX10_trace_72 : decode cX10_trace 72 = .ok (.ifCond .ne 59, 3) := by decide +kernel
theorem dX10_trace_75 : decode cX10_trace 75 = .ok (.aload 5, 2) := by decide +kernel
theorem dX10_trace_77 : decode cX10_trace 77 = .ok (.iload 7, 2) := by decide +kernel
theorem dX10_trace_79 : decode cX10_trace 79 = .ok (.iconst 2, 1) := by decide +kernel
theorem dX10_trace_80 : decode cX10_trace 80 = .ok (.iadd, 1) := by decide +kernel
theorem dX10_trace_81 : decode cX10_trace 81 = .ok (.iaload, 1) := by decide +kernel
theorem dX10_trace_82 : decode cX10_trace 82 = .ok (.invokestatic 247, 3) := by decide +kernel
theorem dX10_trace_85 : decode cX10_trace 85 = .ok (.ifCond .ne 6, 3) := by decide +kernel
theorem dX10_trace_88 : decode cX10_trace 88 = .ok (.goto 43, 3) := by decide +kernel
theorem dX10_trace_91 : decode cX10_trace 91 = .ok (.aload_n 3, 1) := by decide +kernel
theorem dX10_trace_92 : decode cX10_trace 92 = .ok (.aload_n 0, 1) := by decide +kernel
theorem dX10_trace_93 : decode cX10_trace 93 = .ok (.getfield 10, 3) := by decide +kernel
theorem dX10_trace_96 : decode cX10_trace 96 = .ok (.aload_n 0, 1) := by decide +kernel
theorem dX10_trace_97 : decode cX10_trace 97 = .ok (.getfield 55, 3) := by decide +kernel
theorem dX10_trace_100 : decode cX10_trace 100 = .ok (.aload 5, 2) := by decide +kernel
theorem dX10_trace_102 : decode cX10_trace 102 = .ok (.iload 7, 2) := by decide +kernel
theorem dX10_trace_104 : decode cX10_trace 104 = .ok (.iaload, 1) := by decide +kernel
theorem dX10_trace_105 : decode cX10_trace 105 = .ok (.aload 5, 2) := by decide +kernel
theorem dX10_trace_107 : decode cX10_trace 107 = .ok (.iload 7, 2) := by decide +kernel
theorem dX10_trace_109 : decode cX10_trace 109 = .ok (.iconst 1, 1) := by decide +kernel
theorem dX10_trace_110 : decode cX10_trace 110 = .ok (.iadd, 1) := by decide +kernel
theorem dX10_trace_111 : decode cX10_trace 111 = .ok (.iaload, 1) := by decide +kernel
theorem dX10_trace_112 : decode cX10_trace 112 = .ok (.aload 5, 2) := by decide +kernel
theorem dX10_trace_114 : decode cX10_trace 114 = .ok (.iload 7, 2) := by decide +kernel
theorem dX10_trace_116 : decode cX10_trace 116 = .ok (.iconst 2, 1) := by decide +kernel
theorem dX10_trace_117 : decode cX10_trace 117 = .ok (.iadd, 1) := by decide +kernel
theorem dX10_trace_118 : decode cX10_trace 118 = .ok (.iaload, 1) := by decide +kernel
theorem dX10_trace_119 : decode cX10_trace 119 = .ok (.invokevirtual 250, 3) := by decide +kernel
theorem dX10_trace_122 : decode cX10_trace 122 = .ok (.iinc 6 1, 3) := by decide +kernel
theorem dX10_trace_125 : decode cX10_trace 125 = .ok (.iinc 7 3, 3) := by decide +kernel
theorem dX10_trace_128 : decode cX10_trace 128 = .ok (.goto (-70), 3) := by decide +kernel
theorem dX10_trace_131 : decode cX10_trace 131 = .ok (.iload 6, 2) := by decide +kernel
theorem dX10_trace_133 : decode cX10_trace 133 = .ok (.ireturn, 1) := by decide +kernel
theorem dX10_told_0 : decode cX10_told 0 = .ok (.iload_n 1, 1) := by decide +kernel
theorem dX10_told_1 : decode cX10_told 1 = .ok (.tableswitch 87 0 6 #[43, 51, 59, 64, 69, 74, 82], 43) := by decide +kernel
theorem dX10_told_44 : decode cX10_told 44 = .ok (.aload_n 0, 1) := by decide +kernel
theorem dX10_told_45 : decode cX10_told 45 = .ok (.getfield 10, 3) := by decide +kernel
theorem dX10_told_48 : decode cX10_told 48 = .ok (.getfield 70, 3) := by decide +kernel
theorem dX10_told_51 : decode cX10_told 51 = .ok (.ireturn, 1) := by decide +kernel
theorem dX10_told_52 : decode cX10_told 52 = .ok (.aload_n 0, 1) := by decide +kernel
theorem dX10_told_53 : decode cX10_told 53 = .ok (.getfield 10, 3) := by decide +kernel
theorem dX10_told_56 : decode cX10_told 56 = .ok (.getfield 82, 3) := by decide +kernel
theorem dX10_told_59 : decode cX10_told 59 = .ok (.ireturn, 1) := by decide +kernel
theorem dX10_told_60 : decode cX10_told 60 = .ok (.aload_n 0, 1) := by decide +kernel
theorem dX10_told_61 : decode cX10_told 61 = .ok (.getfield 48, 3) := by decide +kernel
theorem dX10_told_64 : decode cX10_told 64 = .ok (.ireturn, 1) := by decide +kernel
theorem dX10_told_65 : decode cX10_told 65 = .ok (.aload_n 0, 1) := by decide +kernel
theorem dX10_told_66 : decode cX10_told 66 = .ok (.getfield 52, 3) := by decide +kernel
theorem dX10_told_69 : decode cX10_told 69 = .ok (.ireturn, 1) := by decide +kernel
theorem dX10_told_70 : decode cX10_told 70 = .ok (.aload_n 0, 1) := by decide +kernel
theorem dX10_told_71 : decode cX10_told 71 = .ok (.getfield 55, 3) := by decide +kernel
theorem dX10_told_74 : decode cX10_told 74 = .ok (.ireturn, 1) := by decide +kernel
theorem dX10_told_75 : decode cX10_told 75 = .ok (.aload_n 0, 1) := by decide +kernel
theorem dX10_told_76 : decode cX10_told 76 = .ok (.getfield 19, 3) := by decide +kernel
theorem dX10_told_79 : decode cX10_told 79 = .ok (.getfield 111, 3) := by decide +kernel
theorem dX10_told_82 : decode cX10_told 82 = .ok (.ireturn, 1) := by decide +kernel
theorem dX10_told_83 : decode cX10_told 83 = .ok (.aload_n 0, 1) := by decide +kernel
theorem dX10_told_84 : decode cX10_told 84 = .ok (.getfield 58, 3) := by decide +kernel
theorem dX10_told_87 : decode cX10_told 87 = .ok (.ireturn, 1) := by decide +kernel
theorem dX10_told_88 : decode cX10_told 88 = .ok (.aload_n 0, 1) := by decide +kernel
theorem dX10_told_89 : decode cX10_told 89 = .ok (.ldc 65, 2) := by decide +kernel
theorem dX10_told_91 : decode cX10_told 91 = .ok (.invokevirtual 66, 3) := by decide +kernel
theorem dX10_told_94 : decode cX10_told 94 = .ok (.ireturn, 1) := by decide +kernel
theorem dX10_finding_0 : decode cX10_finding 0 = .ok (.aload_n 0, 1) := by decide +kernel
theorem dX10_finding_1 : decode cX10_finding 1 = .ok (.dup, 1) := by decide +kernel
theorem dX10_finding_2 : decode cX10_finding 2 = .ok (.getfield 58, 3) := by decide +kernel
theorem dX10_finding_5 : decode cX10_finding 5 = .ok (.iconst 1, 1) := by decide +kernel
theorem dX10_finding_6 : decode cX10_finding 6 = .ok (.iadd, 1) := by decide +kernel
theorem dX10_finding_7 : decode cX10_finding 7 = .ok (.putfield 58, 3) := by decide +kernel
theorem dX10_finding_10 : decode cX10_finding 10 = .ok (.iload_n 1, 1) := by decide +kernel
theorem dX10_finding_11 : decode cX10_finding 11 = .ok (.ireturn, 1) := by decide +kernel
theorem dX10_timeOrNone_0 : decode cX10_timeOrNone 0 = .ok (.iload_n 1, 1) := by decide +kernel
theorem dX10_timeOrNone_1 : decode cX10_timeOrNone 1 = .ok (.ldc 174, 2) := by decide +kernel
theorem dX10_timeOrNone_3 : decode cX10_timeOrNone 3 = .ok (.if_icmp .ge 7, 3) := by decide +kernel
theorem dX10_timeOrNone_6 : decode cX10_timeOrNone 6 = .ok (.iload_n 1, 1) := by decide +kernel
theorem dX10_timeOrNone_7 : decode cX10_timeOrNone 7 = .ok (.goto 9, 3) := by decide +kernel
theorem dX10_timeOrNone_10 : decode cX10_timeOrNone 10 = .ok (.aload_n 0, 1) := by decide +kernel
theorem dX10_timeOrNone_11 : decode cX10_timeOrNone 11 = .ok (.ldc 175, 2) := by decide +kernel
theorem dX10_timeOrNone_13 : decode cX10_timeOrNone 13 = .ok (.invokevirtual 66, 3) := by decide +kernel
theorem dX10_timeOrNone_16 : decode cX10_timeOrNone 16 = .ok (.ireturn, 1) := by decide +kernel
theorem dX10_findEdition_0 : decode cX10_findEdition 0 = .ok (.iload_n 1, 1) := by decide +kernel
theorem dX10_findEdition_1 : decode cX10_findEdition 1 = .ok (.iconst 0, 1) := by decide +kernel
theorem dX10_findEdition_2 : decode cX10_findEdition 2 = .ok (.aload_n 0, 1) := by decide +kernel
theorem dX10_findEdition_3 : decode cX10_findEdition 3 = .ok (.getfield 48, 3) := by decide +kernel
theorem dX10_findEdition_6 : decode cX10_findEdition 6 = .ok (.iconst 1, 1) := by decide +kernel
theorem dX10_findEdition_7 : decode cX10_findEdition 7 = .ok (.isub, 1) := by decide +kernel
theorem dX10_findEdition_8 : decode cX10_findEdition 8 = .ok (.invokestatic 61, 3) := by decide +kernel
theorem dX10_findEdition_11 : decode cX10_findEdition 11 = .ok (.ifCond .eq 12, 3) := by decide +kernel
theorem dX10_findEdition_14 : decode cX10_findEdition 14 = .ok (.aload_n 0, 1) := by decide +kernel
theorem dX10_findEdition_15 : decode cX10_findEdition 15 = .ok (.getfield 25, 3) := by decide +kernel
theorem dX10_findEdition_18 : decode cX10_findEdition 18 = .ok (.iload_n 1, 1) := by decide +kernel
theorem dX10_findEdition_19 : decode cX10_findEdition 19 = .ok (.aaload, 1) := by decide +kernel
theorem dX10_findEdition_20 : decode cX10_findEdition 20 = .ok (.goto 4, 3) := by decide +kernel
theorem dX10_findEdition_23 : decode cX10_findEdition 23 = .ok (.aconst_null, 1) := by decide +kernel
theorem dX10_findEdition_24 : decode cX10_findEdition 24 = .ok (.areturn, 1) := by decide +kernel
theorem dX10_findPiece_0 : decode cX10_findPiece 0 = .ok (.aload_n 0, 1) := by decide +kernel
theorem dX10_findPiece_1 : decode cX10_findPiece 1 = .ok (.iload_n 1, 1) := by decide +kernel
theorem dX10_findPiece_2 : decode cX10_findPiece 2 = .ok (.invokevirtual 179, 3) := by decide +kernel
theorem dX10_findPiece_5 : decode cX10_findPiece 5 = .ok (.astore_n 3, 1) := by decide +kernel
theorem dX10_findPiece_6 : decode cX10_findPiece 6 = .ok (.aload_n 3, 1) := by decide +kernel
theorem dX10_findPiece_7 : decode cX10_findPiece 7 = .ok (.ifnonnull 7, 3) := by decide +kernel
theorem dX10_findPiece_10 : decode cX10_findPiece 10 = .ok (.aconst_null, 1) := by decide +kernel
theorem dX10_findPiece_11 : decode cX10_findPiece 11 = .ok (.goto 8, 3) := by decide +kernel
theorem dX10_findPiece_14 : decode cX10_findPiece 14 = .ok (.aload_n 3, 1) := by decide +kernel
theorem dX10_findPiece_15 : decode cX10_findPiece 15 = .ok (.iload_n 2, 1) := by decide +kernel
theorem dX10_findPiece_16 : decode cX10_findPiece 16 = .ok (.invokevirtual 285, 3) := by decide +kernel
theorem dX10_findPiece_19 : decode cX10_findPiece 19 = .ok (.areturn, 1) := by decide +kernel
theorem dX10_findWalker_0 : decode cX10_findWalker 0 = .ok (.iload_n 1, 1) := by decide +kernel
theorem dX10_findWalker_1 : decode cX10_findWalker 1 = .ok (.iconst 0, 1) := by decide +kernel
theorem dX10_findWalker_2 : decode cX10_findWalker 2 = .ok (.aload_n 0, 1) := by decide +kernel
theorem dX10_findWalker_3 : decode cX10_findWalker 3 = .ok (.getfield 52, 3) := by decide +kernel
theorem dX10_findWalker_6 : decode cX10_findWalker 6 = .ok (.iconst 1, 1) := by decide +kernel
theorem dX10_findWalker_7 : decode cX10_findWalker 7 = .ok (.isub, 1) := by decide +kernel
theorem dX10_findWalker_8 : decode cX10_findWalker 8 = .ok (.invokestatic 61, 3) := by decide +kernel
theorem dX10_findWalker_11 : decode cX10_findWalker 11 = .ok (.ifCond .eq 12, 3) := by decide +kernel
theorem dX10_findWalker_14 : decode cX10_findWalker 14 = .ok (.aload_n 0, 1) := by decide +kernel
theorem dX10_findWalker_15 : decode cX10_findWalker 15 = .ok (.getfield 31, 3) := by decide +kernel
theorem dX10_findWalker_18 : decode cX10_findWalker 18 = .ok (.iload_n 1, 1) := by decide +kernel
theorem dX10_findWalker_19 : decode cX10_findWalker 19 = .ok (.aaload, 1) := by decide +kernel
theorem dX10_findWalker_20 : decode cX10_findWalker 20 = .ok (.goto 4, 3) := by decide +kernel
theorem dX10_findWalker_23 : decode cX10_findWalker 23 = .ok (.aconst_null, 1) := by decide +kernel
theorem dX10_findWalker_24 : decode cX10_findWalker 24 = .ok (.areturn, 1) := by decide +kernel
theorem dX10_searchAnew_0 : decode cX10_searchAnew 0 = .ok (.aload_n 0, 1) := by decide +kernel
theorem dX10_searchAnew_1 : decode cX10_searchAnew 1 = .ok (.iload_n 1, 1) := by decide +kernel
theorem dX10_searchAnew_2 : decode cX10_searchAnew 2 = .ok (.invokevirtual 179, 3) := by decide +kernel
theorem dX10_searchAnew_5 : decode cX10_searchAnew 5 = .ok (.astore 5, 2) := by decide +kernel
theorem dX10_searchAnew_7 : decode cX10_searchAnew 7 = .ok (.aload 5, 2) := by decide +kernel
theorem dX10_searchAnew_9 : decode cX10_searchAnew 9 = .ok (.ifnull 21, 3) := by decide +kernel
theorem dX10_searchAnew_12 : decode cX10_searchAnew 12 = .ok (.aload_n 0, 1) := by decide +kernel
theorem dX10_searchAnew_13 : decode cX10_searchAnew 13 = .ok (.getfield 10, 3) := by decide +kernel
theorem dX10_searchAnew_16 : decode cX10_searchAnew 16 = .ok (.iload_n 2, 1) := by decide +kernel
theorem dX10_searchAnew_17 : decode cX10_searchAnew 17 = .ok (.invokevirtual 78, 3) := by decide +kernel
theorem dX10_searchAnew_20 : decode cX10_searchAnew 20 = .ok (.ifCond .eq 10, 3) := by decide +kernel
theorem dX10_searchAnew_23 : decode cX10_searchAnew 23 = .ok (.iload_n 3, 1) := by decide +kernel
theorem dX10_searchAnew_24 : decode cX10_searchAnew 24 = .ok (.invokestatic 101, 3) := by decide +kernel
theorem dX10_searchAnew_27 : decode cX10_searchAnew 27 = .ok (.ifCond .ne 5, 3) := by decide +kernel
theorem dX10_searchAnew_30 : decode cX10_searchAnew 30 = .ok (.iconst 0, 1) := by decide +kernel
theorem dX10_searchAnew_31 : decode cX10_searchAnew 31 = .ok (.ireturn, 1) := by decide +kernel
theorem dX10_searchAnew_32 : decode cX10_searchAnew 32 = .ok (.aload_n 0, 1) := by decide +kernel
theorem dX10_searchAnew_33 : decode cX10_searchAnew 33 = .ok (.getfield 44, 3) := by decide +kernel
theorem dX10_searchAnew_36 : decode cX10_searchAnew 36 = .ok (.aload_n 0, 1) := by decide +kernel
theorem dX10_searchAnew_37 : decode cX10_searchAnew 37 = .ok (.getfield 10, 3) := by decide +kernel
theorem dX10_searchAnew_40 : decode cX10_searchAnew 40 = .ok (.aload 5, 2) := by decide +kernel
theorem dX10_searchAnew_42 : decode cX10_searchAnew 42 = .ok (.iload_n 2, 1) := by decide +kernel
theorem dX10_searchAnew_43 : decode cX10_searchAnew 43 = .ok (.iconst 0, 1) := by decide +kernel
theorem dX10_searchAnew_44 : decode cX10_searchAnew 44 = .ok (.iload_n 3, 1) := by decide +kernel
theorem dX10_searchAnew_45 : decode cX10_searchAnew 45 = .ok (.iload 4, 2) := by decide +kernel
theorem dX10_searchAnew_47 : decode cX10_searchAnew 47 = .ok (.invokevirtual 288, 3) := by decide +kernel
theorem dX10_searchAnew_50 : decode cX10_searchAnew 50 = .ok (.iconst 1, 1) := by decide +kernel
theorem dX10_searchAnew_51 : decode cX10_searchAnew 51 = .ok (.ireturn, 1) := by decide +kernel
theorem dX10_searchFrom_0 : decode cX10_searchFrom 0 = .ok (.aload_n 0, 1) := by decide +kernel
theorem dX10_searchFrom_1 : decode cX10_searchFrom 1 = .ok (.getfield 44, 3) := by decide +kernel
theorem dX10_searchFrom_4 : decode cX10_searchFrom 4 = .ok (.aload_n 0, 1) := by decide +kernel
theorem dX10_searchFrom_5 : decode cX10_searchFrom 5 = .ok (.getfield 10, 3) := by decide +kernel
theorem dX10_searchFrom_8 : decode cX10_searchFrom 8 = .ok (.aload_n 1, 1) := by decide +kernel
theorem dX10_searchFrom_9 : decode cX10_searchFrom 9 = .ok (.getfield 240, 3) := by decide +kernel
theorem dX10_searchFrom_12 : decode cX10_searchFrom 12 = .ok (.aload_n 1, 1) := by decide +kernel
theorem dX10_searchFrom_13 : decode cX10_searchFrom 13 = .ok (.getfield 201, 3) := by decide +kernel
theorem dX10_searchFrom_16 : decode cX10_searchFrom 16 = .ok (.aload_n 1, 1) := by decide +kernel
theorem dX10_searchFrom_17 : decode cX10_searchFrom 17 = .ok (.getfield 223, 3) := by decide +kernel
theorem dX10_searchFrom_20 : decode cX10_searchFrom 20 = .ok (.aload_n 0, 1) := by decide +kernel
theorem dX10_searchFrom_21 : decode cX10_searchFrom 21 = .ok (.getfield 55, 3) := by decide +kernel
theorem dX10_searchFrom_24 : decode cX10_searchFrom 24 = .ok (.aload_n 1, 1) := by decide +kernel
theorem dX10_searchFrom_25 : decode cX10_searchFrom 25 = .ok (.getfield 208, 3) := by decide +kernel
theorem dX10_searchFrom_28 : decode cX10_searchFrom 28 = .ok (.invokevirtual 288, 3) := by decide +kernel
theorem dX10_searchFrom_31 : decode cX10_searchFrom 31 = .ok (.return_, 1) := by decide +kernel
theorem dX10_bestNextCorner_0 : decode cX10_bestNextCorner 0 = .ok (.iconst (-1), 1) := by decide +kernel
theorem dX10_bestNextCorner_1 : decode cX10_bestNextCorner 1 = .ok (.istore_n 2, 1) := by decide +kernel
theorem dX10_bestNextCorner_2 : decode cX10_bestNextCorner 2 = .ok (.iconst 0, 1) := by decide +kernel
theorem dX10_bestNextCorner_3 : decode cX10_bestNextCorner 3 = .ok (.istore_n 3, 1) := by decide +kernel
theorem dX10_bestNextCorner_4 : decode cX10_bestNextCorner 4 = .ok (.iconst 0, 1) := by decide +kernel
theorem dX10_bestNextCorner_5 : decode cX10_bestNextCorner 5 = .ok (.istore 4, 2) := by decide +kernel
theorem dX10_bestNextCorner_7 : decode cX10_bestNextCorner 7 = .ok (.iconst 0, 1) := by decide +kernel
theorem dX10_bestNextCorner_8 : decode cX10_bestNextCorner 8 = .ok (.istore 5, 2) := by decide +kernel
theorem dX10_bestNextCorner_10 : decode cX10_bestNextCorner 10 = .ok (.iload 5, 2) := by decide +kernel
theorem dX10_bestNextCorner_12 : decode cX10_bestNextCorner 12 = .ok (.bipush 8, 2) := by decide +kernel
theorem dX10_bestNextCorner_14 : decode cX10_bestNextCorner 14 = .ok (.if_icmp .ge 79, 3) := by decide +kernel
theorem dX10_bestNextCorner_17 : decode cX10_bestNextCorner 17 = .ok (.aload_n 0, 1) := by decide +kernel
theorem dX10_bestNextCorner_18 : decode cX10_bestNextCorner 18 = .ok (.getfield 44, 3) := by decide +kernel
theorem dX10_bestNextCorner_21 : decode cX10_bestNextCorner 21 = .ok (.aload_n 1, 1) := by decide +kernel
theorem dX10_bestNextCorner_22 : decode cX10_bestNextCorner 22 = .ok (.getfield 201, 3) := by decide +kernel
theorem dX10_bestNextCorner_25 : decode cX10_bestNextCorner 25 = .ok (.iload 5, 2) := by decide +kernel
theorem dX10_bestNextCorner_27 : decode cX10_bestNextCorner 27 = .ok (.aload_n 1, 1) := by decide +kernel
theorem dX10_bestNextCorner_28 : decode cX10_bestNextCorner 28 = .ok (.getfield 223, 3) := by decide +kernel
theorem dX10_bestNextCorner_31 : decode cX10_bestNextCorner 31 = .ok (.invokevirtual 292, 3) := by decide +kernel
theorem dX10_bestNextCorner_34 : decode cX10_bestNextCorner 34 = .ok (.istore 6, 2) := by decide +kernel
theorem dX10_bestNextCorner_36 : decode cX10_bestNextCorner 36 = .ok (.iload 6, 2) := by decide +kernel
theorem dX10_bestNextCorner_38 : decode cX10_bestNextCorner 38 = .ok (.ldc 174, 2) := by decide +kernel
theorem dX10_bestNextCorner_40 : decode cX10_bestNextCorner 40 = .ok (.if_icmp .lt 6, 3) := by decide +kernel
theorem dX10_bestNextCorner_43 : decode cX10_bestNextCorner 43 = .ok (.goto 44, 3) := by decide +kernel
theorem dX10_bestNextCorner_46 : decode cX10_bestNextCorner 46 = .ok (.aload_n 0, 1) := by decide +kernel
theorem dX10_bestNextCorner_47 : decode cX10_bestNextCorner 47 = .ok (.iload 5, 2) := by decide +kernel
theorem dX10_bestNextCorner_49 : decode cX10_bestNextCorner 49 = .ok (.invokevirtual 296, 3) := by decide +kernel
theorem dX10_bestNextCorner_52 : decode cX10_bestNextCorner 52 = .ok (.istore 7, 2) := by decide +kernel
theorem dX10_bestNextCorner_54 : decode cX10_bestNextCorner 54 = .ok (.iload_n 2, 1) := by decide +kernel
theorem dX10_bestNextCorner_55 : decode cX10_bestNextCorner 55 = .ok (.ifCond .lt 22, 3) := by decide +kernel
theorem dX10_bestNextCorner_58 : decode cX10_bestNextCorner 58 = .ok (.iload 7, 2) := by decide +kernel
theorem dX10_bestNextCorner_60 : decode cX10_bestNextCorner 60 = .ok (.iload_n 3, 1) := by decide +kernel
theorem dX10_bestNextCorner_61 : decode cX10_bestNextCorner 61 = .ok (.if_icmp .lt 16, 3) := by decide +kernel
theorem dX10_bestNextCorner_64 : decode cX10_bestNextCorner 64 = .ok (.iload 7, 2) := by decide +kernel
theorem dX10_bestNextCorner_66 : decode cX10_bestNextCorner 66 = .ok (.iload_n 3, 1) := by decide +kernel
theorem dX10_bestNextCorner_67 : decode cX10_bestNextCorner 67 = .ok (.if_icmp .ne 20, 3) := by decide +kernel
theorem dX10_bestNextCorner_70 : decode cX10_bestNextCorner 70 = .ok (.iload 6, 2) := by decide +kernel
theorem dX10_bestNextCorner_72 : decode cX10_bestNextCorner 72 = .ok (.iload 4, 2) := by decide +kernel
theorem dX10_bestNextCorner_74 : decode cX10_bestNextCorner 74 = .ok (.if_icmp .ge 13, 3) := by decide +kernel
theorem dX10_bestNextCorner_77 : decode cX10_bestNextCorner 77 = .ok (.iload 5, 2) := by decide +kernel
theorem dX10_bestNextCorner_79 : decode cX10_bestNextCorner 79 = .ok (.istore_n 2, 1) := by decide +kernel
theorem dX10_bestNextCorner_80 : decode cX10_bestNextCorner 80 = .ok (.iload 7, 2) := by decide +kernel
theorem dX10_bestNextCorner_82 : decode cX10_bestNextCorner 82 = .ok (.istore_n 3, 1) := by decide +kernel
theorem dX10_bestNextCorner_83 : decode cX10_bestNextCorner 83 = .ok (.iload 6, 2) := by decide +kernel
theorem dX10_bestNextCorner_85 : decode cX10_bestNextCorner 85 = .ok (.istore 4, 2) := by decide +kernel
theorem dX10_bestNextCorner_87 : decode cX10_bestNextCorner 87 = .ok (.iinc 5 1, 3) := by decide +kernel
theorem dX10_bestNextCorner_90 : decode cX10_bestNextCorner 90 = .ok (.goto (-80), 3) := by decide +kernel
theorem dX10_bestNextCorner_93 : decode cX10_bestNextCorner 93 = .ok (.iload_n 2, 1) := by decide +kernel
theorem dX10_bestNextCorner_94 : decode cX10_bestNextCorner 94 = .ok (.ireturn, 1) := by decide +kernel
theorem dX10_countWalking_0 : decode cX10_countWalking 0 = .ok (.iconst 0, 1) := by decide +kernel
theorem dX10_countWalking_1 : decode cX10_countWalking 1 = .ok (.istore_n 2, 1) := by decide +kernel
theorem dX10_countWalking_2 : decode cX10_countWalking 2 = .ok (.iconst 0, 1) := by decide +kernel
theorem dX10_countWalking_3 : decode cX10_countWalking 3 = .ok (.istore_n 3, 1) := by decide +kernel
theorem dX10_countWalking_4 : decode cX10_countWalking 4 = .ok (.iload_n 3, 1) := by decide +kernel
theorem dX10_countWalking_5 : decode cX10_countWalking 5 = .ok (.aload_n 0, 1) := by decide +kernel
theorem dX10_countWalking_6 : decode cX10_countWalking 6 = .ok (.getfield 52, 3) := by decide +kernel
theorem dX10_countWalking_9 : decode cX10_countWalking 9 = .ok (.if_icmp .ge 37, 3) := by decide +kernel
theorem dX10_countWalking_12 : decode cX10_countWalking 12 = .ok (.aload_n 0, 1) := by decide +kernel
theorem dX10_countWalking_13 : decode cX10_countWalking 13 = .ok (.getfield 31, 3) := by decide +kernel
theorem dX10_countWalking_16 : decode cX10_countWalking 16 = .ok (.iload_n 3, 1) := by decide +kernel
theorem dX10_countWalking_17 : decode cX10_countWalking 17 = .ok (.aaload, 1) := by decide +kernel
theorem dX10_countWalking_18 : decode cX10_countWalking 18 = .ok (.getfield 201, 3) := by decide +kernel
theorem dX10_countWalking_21 : decode cX10_countWalking 21 = .ok (.iload_n 1, 1) := by decide +kernel
theorem dX10_countWalking_22 : decode cX10_countWalking 22 = .ok (.if_icmp .ne 18, 3) := by decide +kernel
theorem dX10_countWalking_25 : decode cX10_countWalking 25 = .ok (.aload_n 0, 1) := by decide +kernel
theorem dX10_countWalking_26 : decode cX10_countWalking 26 = .ok (.getfield 31, 3) := by decide +kernel
theorem dX10_countWalking_29 : decode cX10_countWalking 29 = .ok (.iload_n 3, 1) := by decide +kernel
theorem dX10_countWalking_30 : decode cX10_countWalking 30 = .ok (.aaload, 1) := by decide +kernel
theorem dX10_countWalking_31 : decode cX10_countWalking 31 = .ok (.invokevirtual 197, 3) := by decide +kernel
theorem dX10_countWalking_34 : decode cX10_countWalking 34 = .ok (.ifCond .ne 6, 3) := by decide +kernel
theorem dX10_countWalking_37 : decode cX10_countWalking 37 = .ok (.iinc 2 1, 3) := by decide +kernel
theorem dX10_countWalking_40 : decode cX10_countWalking 40 = .ok (.iinc 3 1, 3) := by decide +kernel
theorem dX10_countWalking_43 : decode cX10_countWalking 43 = .ok (.goto (-39), 3) := by decide +kernel
theorem dX10_countWalking_46 : decode cX10_countWalking 46 = .ok (.iload_n 2, 1) := by decide +kernel
theorem dX10_countWalking_47 : decode cX10_countWalking 47 = .ok (.ireturn, 1) := by decide +kernel
theorem dX10_isWithin_0 : decode cX10_isWithin 0 = .ok (.iload_n 0, 1) := by decide +kernel
theorem dX10_isWithin_1 : decode cX10_isWithin 1 = .ok (.iload_n 1, 1) := by decide +kernel
theorem dX10_isWithin_2 : decode cX10_isWithin 2 = .ok (.if_icmp .lt 12, 3) := by decide +kernel
theorem dX10_isWithin_5 : decode cX10_isWithin 5 = .ok (.iload_n 0, 1) := by decide +kernel
theorem dX10_isWithin_6 : decode cX10_isWithin 6 = .ok (.iload_n 2, 1) := by decide +kernel
theorem dX10_isWithin_7 : decode cX10_isWithin 7 = .ok (.if_icmp .gt 7, 3) := by decide +kernel
theorem dX10_isWithin_10 : decode cX10_isWithin 10 = .ok (.iconst 1, 1) := by decide +kernel
theorem dX10_isWithin_11 : decode cX10_isWithin 11 = .ok (.goto 4, 3) := by decide +kernel
theorem dX10_isWithin_14 : decode cX10_isWithin 14 = .ok (.iconst 0, 1) := by decide +kernel
theorem dX10_isWithin_15 : decode cX10_isWithin 15 = .ok (.ireturn, 1) := by decide +kernel
theorem dX10_isDay_0 : decode cX10_isDay 0 = .ok (.iload_n 0, 1) := by decide +kernel
theorem dX10_isDay_1 : decode cX10_isDay 1 = .ok (.iconst 0, 1) := by decide +kernel
theorem dX10_isDay_2 : decode cX10_isDay 2 = .ok (.bipush 6, 2) := by decide +kernel
theorem dX10_isDay_4 : decode cX10_isDay 4 = .ok (.invokestatic 61, 3) := by decide +kernel
theorem dX10_isDay_7 : decode cX10_isDay 7 = .ok (.ireturn, 1) := by decide +kernel
theorem dX10_isDoubt_0 : decode cX10_isDoubt 0 = .ok (.iload_n 0, 1) := by decide +kernel
theorem dX10_isDoubt_1 : decode cX10_isDoubt 1 = .ok (.iconst 0, 1) := by decide +kernel
theorem dX10_isDoubt_2 : decode cX10_isDoubt 2 = .ok (.bipush 30, 2) := by decide +kernel
theorem dX10_isDoubt_4 : decode cX10_isDoubt 4 = .ok (.invokestatic 61, 3) := by decide +kernel
theorem dX10_isDoubt_7 : decode cX10_isDoubt 7 = .ok (.ireturn, 1) := by decide +kernel
theorem dX10_isSheet_0 : decode cX10_isSheet 0 = .ok (.iload_n 0, 1) := by decide +kernel
theorem dX10_isSheet_1 : decode cX10_isSheet 1 = .ok (.iconst 0, 1) := by decide +kernel
theorem dX10_isSheet_2 : decode cX10_isSheet 2 = .ok (.iconst 3, 1) := by decide +kernel
theorem dX10_isSheet_3 : decode cX10_isSheet 3 = .ok (.invokestatic 61, 3) := by decide +kernel
theorem dX10_isSheet_6 : decode cX10_isSheet 6 = .ok (.ireturn, 1) := by decide +kernel
theorem dX10_isSheetBits_0 : decode cX10_isSheetBits 0 = .ok (.iload_n 0, 1) := by decide +kernel
theorem dX10_isSheetBits_1 : decode cX10_isSheetBits 1 = .ok (.ifCond .eq 21, 3) := by decide +kernel
theorem dX10_isSheetBits_4 : decode cX10_isSheetBits 4 = .ok (.iload_n 0, 1) := by decide +kernel
theorem dX10_isSheetBits_5 : decode cX10_isSheetBits 5 = .ok (.bipush 8, 2) := by decide +kernel
theorem dX10_isSheetBits_7 : decode cX10_isSheetBits 7 = .ok (.if_icmp .eq 15, 3) := by decide +kernel
theorem dX10_isSheetBits_10 : decode cX10_isSheetBits 10 = .ok (.iload_n 0, 1) := by decide +kernel
theorem dX10_isSheetBits_11 : decode cX10_isSheetBits 11 = .ok (.bipush 16, 2) := by decide +kernel
theorem dX10_isSheetBits_13 : decode cX10_isSheetBits 13 = .ok (.if_icmp .eq 9, 3) := by decide +kernel
theorem dX10_isSheetBits_16 : decode cX10_isSheetBits 16 = .ok (.iload_n 0, 1) := by decide +kernel
theorem dX10_isSheetBits_17 : decode cX10_isSheetBits 17 = .ok (.bipush 32, 2) := by decide +kernel
theorem dX10_isSheetBits_19 : decode cX10_isSheetBits 19 = .ok (.if_icmp .ne 7, 3) := by decide +kernel
theorem dX10_isSheetBits_22 : decode cX10_isSheetBits 22 = .ok (.iconst 1, 1) := by decide +kernel
theorem dX10_isSheetBits_23 : decode cX10_isSheetBits 23 = .ok (.goto 4, 3) := by decide +kernel
theorem dX10_isSheetBits_26 : decode cX10_isSheetBits 26 = .ok (.iconst 0, 1) := by decide +kernel
theorem dX10_isSheetBits_27 : decode cX10_isSheetBits 27 = .ok (.ireturn, 1) := by decide +kernel
theorem dX10_has_0 : decode cX10_has 0 = .ok (.iload_n 0, 1) := by decide +kernel
theorem dX10_has_1 : decode cX10_has 1 = .ok (.iload_n 1, 1) := by decide +kernel
theorem dX10_has_2 : decode cX10_has 2 = .ok (.ishr, 1) := by decide +kernel
theorem dX10_has_3 : decode cX10_has 3 = .ok (.iconst 1, 1) := by decide +kernel
theorem dX10_has_4 : decode cX10_has 4 = .ok (.iand, 1) := by decide +kernel
theorem dX10_has_5 : decode cX10_has 5 = .ok (.ifCond .eq 7, 3) := by decide +kernel
theorem dX10_has_8 : decode cX10_has 8 = .ok (.iconst 1, 1) := by decide +kernel
theorem dX10_has_9 : decode cX10_has 9 = .ok (.goto 4, 3) := by decide +kernel
theorem dX10_has_12 : decode cX10_has 12 = .ok (.iconst 0, 1) := by decide +kernel
theorem dX10_has_13 : decode cX10_has 13 = .ok (.ireturn, 1) := by decide +kernel
