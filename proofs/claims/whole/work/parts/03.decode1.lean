theorem dX5_init_0 : decode cX5_init 0 = .ok (.aload_n 0, 1) := by decide +kernel
theorem dX5_init_1 : decode cX5_init 1 = .ok (.invokespecial 1, 3) := by decide +kernel
theorem dX5_init_4 : decode cX5_init 4 = .ok (.aload_n 0, 1) := by decide +kernel
theorem dX5_init_5 : decode cX5_init 5 = .ok (.iload_n 1, 1) := by decide +kernel
theorem dX5_init_6 : decode cX5_init 6 = .ok (.putfield 7, 3) := by decide +kernel
theorem dX5_init_9 : decode cX5_init 9 = .ok (.aload_n 0, 1) := by decide +kernel
theorem dX5_init_10 : decode cX5_init 10 = .ok (.iload_n 2, 1) := by decide +kernel
theorem dX5_init_11 : decode cX5_init 11 = .ok (.iconst 0, 1) := by decide +kernel
theorem dX5_init_12 : decode cX5_init 12 = .ok (.invokestatic 13, 3) := by decide +kernel
theorem dX5_init_15 : decode cX5_init 15 = .ok (.newarray .int, 2) := by decide +kernel
theorem dX5_init_17 : decode cX5_init 17 = .ok (.putfield 19, 3) := by decide +kernel
theorem dX5_init_20 : decode cX5_init 20 = .ok (.return_, 1) := by decide +kernel
theorem dX5_lowestBits_0 : decode cX5_lowestBits 0 = .ok (.bipush 32, 2) := by decide +kernel
theorem dX5_lowestBits_2 : decode cX5_lowestBits 2 = .ok (.aload_n 0, 1) := by decide +kernel
theorem dX5_lowestBits_3 : decode cX5_lowestBits 3 = .ok (.getfield 7, 3) := by decide +kernel
theorem dX5_lowestBits_6 : decode cX5_lowestBits 6 = .ok (.isub, 1) := by decide +kernel
theorem dX5_lowestBits_7 : decode cX5_lowestBits 7 = .ok (.istore_n 2, 1) := by decide +kernel
theorem dX5_lowestBits_8 : decode cX5_lowestBits 8 = .ok (.iload_n 1, 1) := by decide +kernel
theorem dX5_lowestBits_9 : decode cX5_lowestBits 9 = .ok (.iload_n 2, 1) := by decide +kernel
theorem dX5_lowestBits_10 : decode cX5_lowestBits 10 = .ok (.ishl, 1) := by decide +kernel
theorem dX5_lowestBits_11 : decode cX5_lowestBits 11 = .ok (.iload_n 2, 1) := by decide +kernel
theorem dX5_lowestBits_12 : decode cX5_lowestBits 12 = .ok (.ishr, 1) := by decide +kernel
theorem dX5_lowestBits_13 : decode cX5_lowestBits 13 = .ok (.ireturn, 1) := by decide +kernel
theorem dX5_hasRange_0 : decode cX5_hasRange 0 = .ok (.iload_n 1, 1) := by decide +kernel
theorem dX5_hasRange_1 : decode cX5_hasRange 1 = .ok (.ifCond .lt 22, 3) := by decide +kernel
theorem dX5_hasRange_4 : decode cX5_hasRange 4 = .ok (.iload_n 2, 1) := by decide +kernel
theorem dX5_hasRange_5 : decode cX5_hasRange 5 = .ok (.ifCond .lt 18, 3) := by decide +kernel
theorem dX5_hasRange_8 : decode cX5_hasRange 8 = .ok (.iload_n 2, 1) := by decide +kernel
theorem dX5_hasRange_9 : decode cX5_hasRange 9 = .ok (.aload_n 0, 1) := by decide +kernel
theorem dX5_hasRange_10 : decode cX5_hasRange 10 = .ok (.getfield 19, 3) := by decide +kernel
theorem dX5_hasRange_13 : decode cX5_hasRange 13 = .ok (.arraylength, 1) := by decide +kernel
theorem dX5_hasRange_14 : decode cX5_hasRange 14 = .ok (.iload_n 1, 1) := by decide +kernel
theorem dX5_hasRange_15 : decode cX5_hasRange 15 = .ok (.isub, 1) := by decide +kernel
theorem dX5_hasRange_16 : decode cX5_hasRange 16 = .ok (.if_icmp .gt 7, 3) := by decide +kernel
theorem dX5_hasRange_19 : decode cX5_hasRange 19 = .ok (.iconst 1, 1) := by decide +kernel
theorem dX5_hasRange_20 : decode cX5_hasRange 20 = .ok (.goto 4, 3) := by decide +kernel
theorem dX5_hasRange_23 : decode cX5_hasRange 23 = .ok (.iconst 0, 1) := by decide +kernel
theorem dX5_hasRange_24 : decode cX5_hasRange 24 = .ok (.ireturn, 1) := by decide +kernel
theorem dX6_init_0 : decode cX6_init 0 = .ok (.aload_n 0, 1) := by decide +kernel
theorem dX6_init_1 : decode cX6_init 1 = .ok (.invokespecial 3, 3) := by decide +kernel
theorem dX6_init_4 : decode cX6_init 4 = .ok (.aload_n 0, 1) := by decide +kernel
theorem dX6_init_5 : decode cX6_init 5 = .ok (.sipush 200, 3) := by decide +kernel
theorem dX6_init_8 : decode cX6_init 8 = .ok (.newarray .byte, 2) := by decide +kernel
theorem dX6_init_10 : decode cX6_init 10 = .ok (.putfield 9, 3) := by decide +kernel
theorem dX6_init_13 : decode cX6_init 13 = .ok (.aload_n 0, 1) := by decide +kernel
theorem dX6_init_14 : decode cX6_init 14 = .ok (.iconst 0, 1) := by decide +kernel
theorem dX6_init_15 : decode cX6_init 15 = .ok (.putfield 15, 3) := by decide +kernel
theorem dX6_init_18 : decode cX6_init 18 = .ok (.return_, 1) := by decide +kernel
theorem dX6_append_0 : decode cX6_append 0 = .ok (.iconst 0, 1) := by decide +kernel
theorem dX6_append_1 : decode cX6_append 1 = .ok (.istore 4, 2) := by decide +kernel
theorem dX6_append_3 : decode cX6_append 3 = .ok (.iload 4, 2) := by decide +kernel
theorem dX6_append_5 : decode cX6_append 5 = .ok (.iload_n 3, 1) := by decide +kernel
theorem dX6_append_6 : decode cX6_append 6 = .ok (.if_icmp .ge 37, 3) := by decide +kernel
theorem dX6_append_9 : decode cX6_append 9 = .ok (.aload_n 0, 1) := by decide +kernel
theorem dX6_append_10 : decode cX6_append 10 = .ok (.getfield 9, 3) := by decide +kernel
theorem dX6_append_13 : decode cX6_append 13 = .ok (.aload_n 0, 1) := by decide +kernel
theorem dX6_append_14 : decode cX6_append 14 = .ok (.getfield 15, 3) := by decide +kernel
theorem dX6_append_17 : decode cX6_append 17 = .ok (.lload_n 1, 1) := by decide +kernel
theorem dX6_append_18 : decode cX6_append 18 = .ok (.bipush 8, 2) := by decide +kernel
theorem dX6_append_20 : decode cX6_append 20 = .ok (.iload 4, 2) := by decide +kernel
theorem dX6_append_22 : decode cX6_append 22 = .ok (.imul, 1) := by decide +kernel
theorem dX6_append_23 : decode cX6_append 23 = .ok (.lshr, 1) := by decide +kernel
theorem dX6_append_24 : decode cX6_append 24 = .ok (.l2i, 1) := by decide +kernel
theorem dX6_append_25 : decode cX6_append 25 = .ok (.i2b, 1) := by decide +kernel
theorem dX6_append_26 : decode cX6_append 26 = .ok (.bastore, 1) := by decide +kernel
theorem dX6_append_27 : decode cX6_append 27 = .ok (.aload_n 0, 1) := by decide +kernel
theorem dX6_append_28 : decode cX6_append 28 = .ok (.dup, 1) := by decide +kernel
theorem dX6_append_29 : decode cX6_append 29 = .ok (.getfield 15, 3) := by decide +kernel
theorem dX6_append_32 : decode cX6_append 32 = .ok (.iconst 1, 1) := by decide +kernel
theorem dX6_append_33 : decode cX6_append 33 = .ok (.iadd, 1) := by decide +kernel
theorem dX6_append_34 : decode cX6_append 34 = .ok (.putfield 15, 3) := by decide +kernel
theorem dX6_append_37 : decode cX6_append 37 = .ok (.iinc 4 1, 3) := by decide +kernel
theorem dX6_append_40 : decode cX6_append 40 = .ok (.goto (-37), 3) := by decide +kernel
theorem dX6_append_43 : decode cX6_append 43 = .ok (.return_, 1) := by decide +kernel
theorem dX6_byteAt_0 : decode cX6_byteAt 0 = .ok (.iload_n 1, 1) := by decide +kernel
theorem dX6_byteAt_1 : decode cX6_byteAt 1 = .ok (.iconst 0, 1) := by decide +kernel
theorem dX6_byteAt_2 : decode cX6_byteAt 2 = .ok (.aload_n 0, 1) := by decide +kernel
theorem dX6_byteAt_3 : decode cX6_byteAt 3 = .ok (.getfield 15, 3) := by decide +kernel
theorem dX6_byteAt_6 : decode cX6_byteAt 6 = .ok (.iconst 1, 1) := by decide +kernel
theorem dX6_byteAt_7 : decode cX6_byteAt 7 = .ok (.isub, 1) := by decide +kernel
theorem dX6_byteAt_8 : decode cX6_byteAt 8 = .ok (.invokestatic 19, 3) := by decide +kernel
theorem dX6_byteAt_11 : decode cX6_byteAt 11 = .ok (.ifCond .eq 16, 3) := by decide +kernel
theorem dX6_byteAt_14 : decode cX6_byteAt 14 = .ok (.aload_n 0, 1) := by decide +kernel
theorem dX6_byteAt_15 : decode cX6_byteAt 15 = .ok (.getfield 9, 3) := by decide +kernel
theorem dX6_byteAt_18 : decode cX6_byteAt 18 = .ok (.iload_n 1, 1) := by decide +kernel
theorem dX6_byteAt_19 : decode cX6_byteAt 19 = .ok (.baload, 1) := by decide +kernel
theorem dX6_byteAt_20 : decode cX6_byteAt 20 = .ok (.sipush 255, 3) := by decide +kernel
theorem dX6_byteAt_23 : decode cX6_byteAt 23 = .ok (.iand, 1) := by decide +kernel
theorem dX6_byteAt_24 : decode cX6_byteAt 24 = .ok (.goto 4, 3) := by decide +kernel
theorem dX6_byteAt_27 : decode cX6_byteAt 27 = .ok (.iconst (-1), 1) := by decide +kernel
theorem dX6_byteAt_28 : decode cX6_byteAt 28 = .ok (.ireturn, 1) := by decide +kernel
theorem dX7_init_0 : decode cX7_init 0 = .ok (.aload_n 0, 1) := by decide +kernel
theorem dX7_init_1 : decode cX7_init 1 = .ok (.invokespecial 3, 3) := by decide +kernel
theorem dX7_init_4 : decode cX7_init 4 = .ok (.aload_n 0, 1) := by decide +kernel
theorem dX7_init_5 : decode cX7_init 5 = .ok (.bipush 8, 2) := by decide +kernel
theorem dX7_init_7 : decode cX7_init 7 = .ok (.newarray .int, 2) := by decide +kernel
theorem dX7_init_9 : decode cX7_init 9 = .ok (.putfield 9, 3) := by decide +kernel
theorem dX7_init_12 : decode cX7_init 12 = .ok (.aload_n 0, 1) := by decide +kernel
theorem dX7_init_13 : decode cX7_init 13 = .ok (.bipush 8, 2) := by decide +kernel
theorem dX7_init_15 : decode cX7_init 15 = .ok (.newarray .int, 2) := by decide +kernel
theorem dX7_init_17 : decode cX7_init 17 = .ok (.putfield 15, 3) := by decide +kernel
theorem dX7_init_20 : decode cX7_init 20 = .ok (.aload_n 0, 1) := by decide +kernel
theorem dX7_init_21 : decode cX7_init 21 = .ok (.bipush 14, 2) := by decide +kernel
theorem dX7_init_23 : decode cX7_init 23 = .ok (.anewarray 18, 3) := by decide +kernel
theorem dX7_init_26 : decode cX7_init 26 = .ok (.putfield 20, 3) := by decide +kernel
theorem dX7_init_29 : decode cX7_init 29 = .ok (.aload_n 0, 1) := by decide +kernel
theorem dX7_init_30 : decode cX7_init 30 = .ok (.iconst 0, 1) := by decide +kernel
theorem dX7_init_31 : decode cX7_init 31 = .ok (.putfield 24, 3) := by decide +kernel
theorem dX7_init_34 : decode cX7_init 34 = .ok (.aload_n 0, 1) := by decide +kernel
theorem dX7_init_35 : decode cX7_init 35 = .ok (.iconst 0, 1) := by decide +kernel
theorem dX7_init_36 : decode cX7_init 36 = .ok (.putfield 28, 3) := by decide +kernel
theorem dX7_init_39 : decode cX7_init 39 = .ok (.return_, 1) := by decide +kernel
theorem dX7_addCorner_0 : decode cX7_addCorner 0 = .ok (.aload_n 0, 1) := by decide +kernel
theorem dX7_addCorner_1 : decode cX7_addCorner 1 = .ok (.getfield 9, 3) := by decide +kernel
theorem dX7_addCorner_4 : decode cX7_addCorner 4 = .ok (.aload_n 0, 1) := by decide +kernel
theorem dX7_addCorner_5 : decode cX7_addCorner 5 = .ok (.getfield 24, 3) := by decide +kernel
theorem dX7_addCorner_8 : decode cX7_addCorner 8 = .ok (.iload_n 1, 1) := by decide +kernel
theorem dX7_addCorner_9 : decode cX7_addCorner 9 = .ok (.iastore, 1) := by decide +kernel
theorem dX7_addCorner_10 : decode cX7_addCorner 10 = .ok (.aload_n 0, 1) := by decide +kernel
theorem dX7_addCorner_11 : decode cX7_addCorner 11 = .ok (.getfield 15, 3) := by decide +kernel
theorem dX7_addCorner_14 : decode cX7_addCorner 14 = .ok (.aload_n 0, 1) := by decide +kernel
theorem dX7_addCorner_15 : decode cX7_addCorner 15 = .ok (.getfield 24, 3) := by decide +kernel
theorem dX7_addCorner_18 : decode cX7_addCorner 18 = .ok (.iload_n 2, 1) := by decide +kernel
theorem dX7_addCorner_19 : decode cX7_addCorner 19 = .ok (.iastore, 1) := by decide +kernel
theorem dX7_addCorner_20 : decode cX7_addCorner 20 = .ok (.aload_n 0, 1) := by decide +kernel
theorem dX7_addCorner_21 : decode cX7_addCorner 21 = .ok (.dup, 1) := by decide +kernel
theorem dX7_addCorner_22 : decode cX7_addCorner 22 = .ok (.getfield 24, 3) := by decide +kernel
theorem dX7_addCorner_25 : decode cX7_addCorner 25 = .ok (.iconst 1, 1) := by decide +kernel
theorem dX7_addCorner_26 : decode cX7_addCorner 26 = .ok (.iadd, 1) := by decide +kernel
theorem dX7_addCorner_27 : decode cX7_addCorner 27 = .ok (.putfield 24, 3) := by decide +kernel
theorem dX7_addCorner_30 : decode cX7_addCorner 30 = .ok (.aload_n 0, 1) := by decide +kernel
theorem dX7_addCorner_31 : decode cX7_addCorner 31 = .ok (.getfield 24, 3) := by decide +kernel
theorem dX7_addCorner_34 : decode cX7_addCorner 34 = .ok (.iconst 1, 1) := by decide +kernel
theorem dX7_addCorner_35 : decode cX7_addCorner 35 = .ok (.isub, 1) := by decide +kernel
theorem dX7_addCorner_36 : decode cX7_addCorner 36 = .ok (.ireturn, 1) := by decide +kernel
theorem dX7_addWay_0 : decode cX7_addWay 0 = .ok (.aload_n 0, 1) := by decide +kernel
theorem dX7_addWay_1 : decode cX7_addWay 1 = .ok (.getfield 20, 3) := by decide +kernel
theorem dX7_addWay_4 : decode cX7_addWay 4 = .ok (.aload_n 0, 1) := by decide +kernel
theorem dX7_addWay_5 : decode cX7_addWay 5 = .ok (.getfield 28, 3) := by decide +kernel
theorem dX7_addWay_8 : decode cX7_addWay 8 = .ok (.aload_n 1, 1) := by decide +kernel
theorem dX7_addWay_9 : decode cX7_addWay 9 = .ok (.aastore, 1) := by decide +kernel
theorem dX7_addWay_10 : decode cX7_addWay 10 = .ok (.aload_n 0, 1) := by decide +kernel
theorem dX7_addWay_11 : decode cX7_addWay 11 = .ok (.dup, 1) := by decide +kernel
theorem dX7_addWay_12 : decode cX7_addWay 12 = .ok (.getfield 28, 3) := by decide +kernel
theorem dX7_addWay_15 : decode cX7_addWay 15 = .ok (.iconst 1, 1) := by decide +kernel
theorem dX7_addWay_16 : decode cX7_addWay 16 = .ok (.iadd, 1) := by decide +kernel
theorem dX7_addWay_17 : decode cX7_addWay 17 = .ok (.putfield 28, 3) := by decide +kernel
theorem dX7_addWay_20 : decode cX7_addWay 20 = .ok (.aload_n 0, 1) := by decide +kernel
theorem dX7_addWay_21 : decode cX7_addWay 21 = .ok (.getfield 28, 3) := by decide +kernel
theorem dX7_addWay_24 : decode cX7_addWay 24 = .ok (.iconst 1, 1) := by decide +kernel
theorem dX7_addWay_25 : decode cX7_addWay 25 = .ok (.isub, 1) := by decide +kernel
theorem dX7_addWay_26 : decode cX7_addWay 26 = .ok (.ireturn, 1) := by decide +kernel
theorem dX7_hasCorner_0 : decode cX7_hasCorner 0 = .ok (.iload_n 1, 1) := by decide +kernel
theorem dX7_hasCorner_1 : decode cX7_hasCorner 1 = .ok (.iconst 0, 1) := by decide +kernel
theorem dX7_hasCorner_2 : decode cX7_hasCorner 2 = .ok (.aload_n 0, 1) := by decide +kernel
theorem dX7_hasCorner_3 : decode cX7_hasCorner 3 = .ok (.getfield 24, 3) := by decide +kernel
theorem dX7_hasCorner_6 : decode cX7_hasCorner 6 = .ok (.iconst 1, 1) := by decide +kernel
theorem dX7_hasCorner_7 : decode cX7_hasCorner 7 = .ok (.isub, 1) := by decide +kernel
theorem dX7_hasCorner_8 : decode cX7_hasCorner 8 = .ok (.invokestatic 31, 3) := by decide +kernel
theorem dX7_hasCorner_11 : decode cX7_hasCorner 11 = .ok (.ireturn, 1) := by decide +kernel
theorem dX7_findWay_0 : decode cX7_findWay 0 = .ok (.iload_n 1, 1) := by decide +kernel
theorem dX7_findWay_1 : decode cX7_findWay 1 = .ok (.iconst 0, 1) := by decide +kernel
theorem dX7_findWay_2 : decode cX7_findWay 2 = .ok (.aload_n 0, 1) := by decide +kernel
theorem dX7_findWay_3 : decode cX7_findWay 3 = .ok (.getfield 28, 3) := by decide +kernel
theorem dX7_findWay_6 : decode cX7_findWay 6 = .ok (.iconst 1, 1) := by decide +kernel
theorem dX7_findWay_7 : decode cX7_findWay 7 = .ok (.isub, 1) := by decide +kernel
theorem dX7_findWay_8 : decode cX7_findWay 8 = .ok (.invokestatic 31, 3) := by decide +kernel
theorem dX7_findWay_11 : decode cX7_findWay 11 = .ok (.ifCond .eq 12, 3) := by decide +kernel
theorem dX7_findWay_14 : decode cX7_findWay 14 = .ok (.aload_n 0, 1) := by decide +kernel
theorem dX7_findWay_15 : decode cX7_findWay 15 = .ok (.getfield 20, 3) := by decide +kernel
theorem dX7_findWay_18 : decode cX7_findWay 18 = .ok (.iload_n 1, 1) := by decide +kernel
theorem dX7_findWay_19 : decode cX7_findWay 19 = .ok (.aaload, 1) := by decide +kernel
theorem dX7_findWay_20 : decode cX7_findWay 20 = .ok (.goto 4, 3) := by decide +kernel
theorem dX7_findWay_23 : decode cX7_findWay 23 = .ok (.aconst_null, 1) := by decide +kernel
theorem dX7_findWay_24 : decode cX7_findWay 24 = .ok (.areturn, 1) := by decide +kernel
theorem dX7_isJoined_0 : decode cX7_isJoined 0 = .ok (.iconst 0, 1) := by decide +kernel
theorem dX7_isJoined_1 : decode cX7_isJoined 1 = .ok (.istore 5, 2) := by decide +kernel
theorem dX7_isJoined_3 : decode cX7_isJoined 3 = .ok (.iload 5, 2) := by decide +kernel
theorem dX7_isJoined_5 : decode cX7_isJoined 5 = .ok (.aload_n 0, 1) := by decide +kernel
theorem dX7_isJoined_6 : decode cX7_isJoined 6 = .ok (.getfield 28, 3) := by decide +kernel
theorem dX7_isJoined_9 : decode cX7_isJoined 9 = .ok (.if_icmp .ge 56, 3) := by decide +kernel
theorem dX7_isJoined_12 : decode cX7_isJoined 12 = .ok (.aload_n 0, 1) := by decide +kernel
theorem dX7_isJoined_13 : decode cX7_isJoined 13 = .ok (.getfield 20, 3) := by decide +kernel
theorem dX7_isJoined_16 : decode cX7_isJoined 16 = .ok (.iload 5, 2) := by decide +kernel
theorem dX7_isJoined_18 : decode cX7_isJoined 18 = .ok (.aaload, 1) := by decide +kernel
theorem dX7_isJoined_19 : decode cX7_isJoined 19 = .ok (.iload_n 3, 1) := by decide +kernel
theorem dX7_isJoined_20 : decode cX7_isJoined 20 = .ok (.iload 4, 2) := by decide +kernel
theorem dX7_isJoined_22 : decode cX7_isJoined 22 = .ok (.invokevirtual 35, 3) := by decide +kernel
theorem dX7_isJoined_25 : decode cX7_isJoined 25 = .ok (.ifCond .eq 34, 3) := by decide +kernel
theorem dX7_isJoined_28 : decode cX7_isJoined 28 = .ok (.aload_n 0, 1) := by decide +kernel
theorem dX7_isJoined_29 : decode cX7_isJoined 29 = .ok (.getfield 20, 3) := by decide +kernel
theorem dX7_isJoined_32 : decode cX7_isJoined 32 = .ok (.iload 5, 2) := by decide +kernel
theorem dX7_isJoined_34 : decode cX7_isJoined 34 = .ok (.aaload, 1) := by decide +kernel
theorem dX7_isJoined_35 : decode cX7_isJoined 35 = .ok (.iload_n 1, 1) := by decide +kernel
theorem dX7_isJoined_36 : decode cX7_isJoined 36 = .ok (.invokevirtual 39, 3) := by decide +kernel
theorem dX7_isJoined_39 : decode cX7_isJoined 39 = .ok (.ifCond .eq 20, 3) := by decide +kernel
theorem dX7_isJoined_42 : decode cX7_isJoined 42 = .ok (.aload_n 0, 1) := by decide +kernel
theorem dX7_isJoined_43 : decode cX7_isJoined 43 = .ok (.getfield 20, 3) := by decide +kernel
theorem dX7_isJoined_46 : decode cX7_isJoined 46 = .ok (.iload 5, 2) := by decide +kernel
theorem dX7_isJoined_48 : decode cX7_isJoined 48 = .ok (.aaload, 1) := by decide +kernel
theorem dX7_isJoined_49 : decode cX7_isJoined 49 = .ok (.iload_n 1, 1) := by decide +kernel
theorem dX7_isJoined_50 : decode cX7_isJoined 50 = .ok (.invokevirtual 43, 3) := by decide +kernel
theorem dX7_isJoined_53 : decode cX7_isJoined 53 = .ok (.iload_n 2, 1) := by decide +kernel
theorem dX7_isJoined_54 : decode cX7_isJoined 54 = .ok (.if_icmp .ne 5, 3) := by decide +kernel
theorem dX7_isJoined_57 : decode cX7_isJoined 57 = .ok (.iconst 1, 1) := by decide +kernel
theorem dX7_isJoined_58 : decode cX7_isJoined 58 = .ok (.ireturn, 1) := by decide +kernel
theorem dX7_isJoined_59 : decode cX7_isJoined 59 = .ok (.iinc 5 1, 3) := by decide +kernel
theorem dX7_isJoined_62 : decode cX7_isJoined 62 = .ok (.goto (-59), 3) := by decide +kernel
theorem dX7_isJoined_65 : decode cX7_isJoined 65 = .ok (.iconst 0, 1) := by decide +kernel
theorem dX7_isJoined_66 : decode cX7_isJoined 66 = .ok (.ireturn, 1) := by decide +kernel
theorem dX7_possibleCorners_0 : decode cX7_possibleCorners 0 = .ok (.iconst 0, 1) := by decide +kernel
theorem dX7_possibleCorners_1 : decode cX7_possibleCorners 1 = .ok (.istore 4, 2) := by decide +kernel
theorem dX7_possibleCorners_3 : decode cX7_possibleCorners 3 = .ok (.iconst 0, 1) := by decide +kernel
theorem dX7_possibleCorners_4 : decode cX7_possibleCorners 4 = .ok (.istore 5, 2) := by decide +kernel
theorem dX7_possibleCorners_6 : decode cX7_possibleCorners 6 = .ok (.iload 5, 2) := by decide +kernel
theorem dX7_possibleCorners_8 : decode cX7_possibleCorners 8 = .ok (.aload_n 0, 1) := by decide +kernel
theorem dX7_possibleCorners_9 : decode cX7_possibleCorners 9 = .ok (.getfield 24, 3) := by decide +kernel
theorem dX7_possibleCorners_12 : decode cX7_possibleCorners 12 = .ok (.if_icmp .ge 68, 3) := by decide +kernel
theorem dX7_possibleCorners_15 : decode cX7_possibleCorners 15 = .ok (.iload_n 1, 1) := by decide +kernel
theorem dX7_possibleCorners_16 : decode cX7_possibleCorners 16 = .ok (.aload_n 0, 1) := by decide +kernel
theorem dX7_possibleCorners_17 : decode cX7_possibleCorners 17 = .ok (.getfield 9, 3) := by decide +kernel
theorem dX7_possibleCorners_20 : decode cX7_possibleCorners 20 = .ok (.iload 5, 2) := by decide +kernel
theorem dX7_possibleCorners_22 : decode cX7_possibleCorners 22 = .ok (.iaload, 1) := by decide +kernel
theorem dX7_possibleCorners_23 : decode cX7_possibleCorners 23 = .ok (.iload_n 3, 1) := by decide +kernel
theorem dX7_possibleCorners_24 : decode cX7_possibleCorners 24 = .ok (.isub, 1) := by decide +kernel
theorem dX7_possibleCorners_25 : decode cX7_possibleCorners 25 = .ok (.aload_n 0, 1) := by decide +kernel
theorem dX7_possibleCorners_26 : decode cX7_possibleCorners 26 = .ok (.getfield 9, 3) := by decide +kernel
theorem dX7_possibleCorners_29 : decode cX7_possibleCorners 29 = .ok (.iload 5, 2) := by decide +kernel
theorem dX7_possibleCorners_31 : decode cX7_possibleCorners 31 = .ok (.iaload, 1) := by decide +kernel
theorem dX7_possibleCorners_32 : decode cX7_possibleCorners 32 = .ok (.iload_n 3, 1) := by decide +kernel
theorem dX7_possibleCorners_33 : decode cX7_possibleCorners 33 = .ok (.iadd, 1) := by decide +kernel
theorem dX7_possibleCorners_34 : decode cX7_possibleCorners 34 = .ok (.invokestatic 31, 3) := by decide +kernel
theorem dX7_possibleCorners_37 : decode cX7_possibleCorners 37 = .ok (.ifCond .eq 37, 3) := by decide +kernel
theorem dX7_possibleCorners_40 : decode cX7_possibleCorners 40 = .ok (.iload_n 2, 1) := by decide +kernel
theorem dX7_possibleCorners_41 : decode cX7_possibleCorners 41 = .ok (.aload_n 0, 1) := by decide +kernel
theorem dX7_possibleCorners_42 : decode cX7_possibleCorners 42 = .ok (.getfield 15, 3) := by decide +kernel
theorem dX7_possibleCorners_45 : decode cX7_possibleCorners 45 = .ok (.iload 5, 2) := by decide +kernel
theorem dX7_possibleCorners_47 : decode cX7_possibleCorners 47 = .ok (.iaload, 1) := by decide +kernel
theorem dX7_possibleCorners_48 : decode cX7_possibleCorners 48 = .ok (.iload_n 3, 1) := by decide +kernel
theorem dX7_possibleCorners_49 : decode cX7_possibleCorners 49 = .ok (.isub, 1) := by decide +kernel
theorem dX7_possibleCorners_50 : decode cX7_possibleCorners 50 = .ok (.aload_n 0, 1) := by decide +kernel
theorem dX7_possibleCorners_51 : decode cX7_possibleCorners 51 = .ok (.getfield 15, 3) := by decide +kernel
theorem dX7_possibleCorners_54 : decode cX7_possibleCorners 54 = .ok (.iload 5, 2) := by decide +kernel
theorem dX7_possibleCorners_56 : decode cX7_possibleCorners 56 = .ok (.iaload, 1) := by decide +kernel
theorem dX7_possibleCorners_57 : decode cX7_possibleCorners 57 = .ok (.iload_n 3, 1) := by decide +kernel
theorem dX7_possibleCorners_58 : decode cX7_possibleCorners 58 = .ok (.iadd, 1) := by decide +kernel
theorem dX7_possibleCorners_59 : decode cX7_possibleCorners 59 = .ok (.invokestatic 31, 3) := by decide +kernel
theorem dX7_possibleCorners_62 : decode cX7_possibleCorners 62 = .ok (.ifCond .eq 12, 3) := by decide +kernel
theorem dX7_possibleCorners_65 : decode cX7_possibleCorners 65 = .ok (.iload 4, 2) := by decide +kernel
theorem dX7_possibleCorners_67 : decode cX7_possibleCorners 67 = .ok (.iconst 1, 1) := by decide +kernel
theorem dX7_possibleCorners_68 : decode cX7_possibleCorners 68 = .ok (.iload 5, 2) := by decide +kernel
theorem dX7_possibleCorners_70 : decode cX7_possibleCorners 70 = .ok (.ishl, 1) := by decide +kernel
theorem dX7_possibleCorners_71 : decode cX7_possibleCorners 71 = .ok (.ior, 1) := by decide +kernel
theorem dX7_possibleCorners_72 : decode cX7_possibleCorners 72 = .ok (.istore 4, 2) := by decide +kernel
theorem dX7_possibleCorners_74 : decode cX7_possibleCorners 74 = .ok (.iinc 5 1, 3) := by decide +kernel
theorem dX7_possibleCorners_77 : decode cX7_possibleCorners 77 = .ok (.goto (-71), 3) := by decide +kernel
theorem dX7_possibleCorners_80 : decode cX7_possibleCorners 80 = .ok (.iload 4, 2) := by decide +kernel
theorem dX7_possibleCorners_82 : decode cX7_possibleCorners 82 = .ok (.ireturn, 1) := by decide +kernel
theorem dX8_init_0 : decode cX8_init 0 = .ok (.aload_n 0, 1) := by decide +kernel
theorem dX8_init_1 : decode cX8_init 1 = .ok (.invokespecial 3, 3) := by decide +kernel
theorem dX8_init_4 : decode cX8_init 4 = .ok (.aload_n 0, 1) := by decide +kernel
theorem dX8_init_5 : decode cX8_init 5 = .ok (.iconst 0, 1) := by decide +kernel
theorem dX8_init_6 : decode cX8_init 6 = .ok (.putfield 9, 3) := by decide +kernel
theorem dX8_init_9 : decode cX8_init 9 = .ok (.aload_n 0, 1) := by decide +kernel
theorem dX8_init_10 : decode cX8_init 10 = .ok (.iconst 0, 1) := by decide +kernel
theorem dX8_init_11 : decode cX8_init 11 = .ok (.putfield 15, 3) := by decide +kernel
theorem dX8_init_14 : decode cX8_init 14 = .ok (.aload_n 0, 1) := by decide +kernel
theorem dX8_init_15 : decode cX8_init 15 = .ok (.iconst 0, 1) := by decide +kernel
theorem dX8_init_16 : decode cX8_init 16 = .ok (.putfield 18, 3) := by decide +kernel
theorem dX8_init_19 : decode cX8_init 19 = .ok (.aload_n 0, 1) := by decide +kernel
theorem dX8_init_20 : decode cX8_init 20 = .ok (.iconst (-1), 1) := by decide +kernel
theorem dX8_init_21 : decode cX8_init 21 = .ok (.putfield 21, 3) := by decide +kernel
theorem dX8_init_24 : decode cX8_init 24 = .ok (.aload_n 0, 1) := by decide +kernel
theorem dX8_init_25 : decode cX8_init 25 = .ok (.iconst (-1), 1) := by decide +kernel
theorem dX8_init_26 : decode cX8_init 26 = .ok (.putfield 24, 3) := by decide +kernel
theorem dX8_init_29 : decode cX8_init 29 = .ok (.aload_n 0, 1) := by decide +kernel
theorem dX8_init_30 : decode cX8_init 30 = .ok (.iconst 0, 1) := by decide +kernel
theorem dX8_init_31 : decode cX8_init 31 = .ok (.putfield 27, 3) := by decide +kernel
theorem dX8_init_34 : decode cX8_init 34 = .ok (.aload_n 0, 1) := by decide +kernel
theorem dX8_init_35 : decode cX8_init 35 = .ok (.aload_n 1, 1) := by decide +kernel
theorem dX8_init_36 : decode cX8_init 36 = .ok (.putfield 30, 3) := by decide +kernel
theorem dX8_init_39 : decode cX8_init 39 = .ok (.aload_n 0, 1) := by decide +kernel
theorem dX8_init_40 : decode cX8_init 40 = .ok (.iload_n 2, 1) := by decide +kernel
theorem dX8_init_41 : decode cX8_init 41 = .ok (.putfield 34, 3) := by decide +kernel
theorem dX8_init_44 : decode cX8_init 44 = .ok (.aload_n 0, 1) := by decide +kernel
theorem dX8_init_45 : decode cX8_init 45 = .ok (.iload_n 3, 1) := by decide +kernel
theorem dX8_init_46 : decode cX8_init 46 = .ok (.putfield 37, 3) := by decide +kernel
theorem dX8_init_49 : decode cX8_init 49 = .ok (.return_, 1) := by decide +kernel
theorem dX8_isOver_0 : decode cX8_isOver 0 = .ok (.aload_n 0, 1) := by decide +kernel
theorem dX8_isOver_1 : decode cX8_isOver 1 = .ok (.getfield 30, 3) := by decide +kernel
theorem dX8_isOver_4 : decode cX8_isOver 4 = .ok (.aload_n 0, 1) := by decide +kernel
theorem dX8_isOver_5 : decode cX8_isOver 5 = .ok (.getfield 15, 3) := by decide +kernel
theorem dX8_isOver_8 : decode cX8_isOver 8 = .ok (.invokevirtual 41, 3) := by decide +kernel
theorem dX8_isOver_11 : decode cX8_isOver 11 = .ok (.ireturn, 1) := by decide +kernel
theorem dX8_listen_0 : decode cX8_listen 0 = .ok (.iconst 0, 1) := by decide +kernel
theorem dX8_listen_1 : decode cX8_listen 1 = .ok (.istore_n 2, 1) := by decide +kernel
theorem dX8_listen_2 : decode cX8_listen 2 = .ok (.iconst 0, 1) := by decide +kernel
theorem dX8_listen_3 : decode cX8_listen 3 = .ok (.istore_n 3, 1) := by decide +kernel
theorem dX8_listen_4 : decode cX8_listen 4 = .ok (.iload_n 3, 1) := by decide +kernel
theorem dX8_listen_5 : decode cX8_listen 5 = .ok (.bipush 12, 2) := by decide +kernel
theorem dX8_listen_7 : decode cX8_listen 7 = .ok (.if_icmp .ge 90, 3) := by decide +kernel
theorem dX8_listen_10 : decode cX8_listen 10 = .ok (.aload_n 0, 1) := by decide +kernel
theorem dX8_listen_11 : decode cX8_listen 11 = .ok (.invokevirtual 47, 3) := by decide +kernel
theorem dX8_listen_14 : decode cX8_listen 14 = .ok (.ifCond .ne 83, 3) := by decide +kernel
theorem dX8_listen_17 : decode cX8_listen 17 = .ok (.aload_n 0, 1) := by decide +kernel
theorem dX8_listen_18 : decode cX8_listen 18 = .ok (.getfield 30, 3) := by decide +kernel
theorem dX8_listen_21 : decode cX8_listen 21 = .ok (.iconst 0, 1) := by decide +kernel
theorem dX8_listen_22 : decode cX8_listen 22 = .ok (.aload_n 0, 1) := by decide +kernel
theorem dX8_listen_23 : decode cX8_listen 23 = .ok (.getfield 9, 3) := by decide +kernel
theorem dX8_listen_26 : decode cX8_listen 26 = .ok (.aload_n 0, 1) := by decide +kernel
theorem dX8_listen_27 : decode cX8_listen 27 = .ok (.getfield 15, 3) := by decide +kernel
theorem dX8_listen_30 : decode cX8_listen 30 = .ok (.iload_n 1, 1) := by decide +kernel
theorem dX8_listen_31 : decode cX8_listen 31 = .ok (.invokevirtual 50, 3) := by decide +kernel
theorem dX8_listen_34 : decode cX8_listen 34 = .ok (.istore 4, 2) := by decide +kernel
theorem dX8_listen_36 : decode cX8_listen 36 = .ok (.aload_n 0, 1) := by decide +kernel
theorem dX8_listen_37 : decode cX8_listen 37 = .ok (.getfield 30, 3) := by decide +kernel
theorem dX8_listen_40 : decode cX8_listen 40 = .ok (.iload 4, 2) := by decide +kernel
theorem dX8_listen_42 : decode cX8_listen 42 = .ok (.invokevirtual 54, 3) := by decide +kernel
theorem dX8_listen_45 : decode cX8_listen 45 = .ok (.astore 5, 2) := by decide +kernel
theorem dX8_listen_47 : decode cX8_listen 47 = .ok (.aload 5, 2) := by decide +kernel
theorem dX8_listen_49 : decode cX8_listen 49 = .ok (.ifnonnull 6, 3) := by decide +kernel
theorem dX8_listen_52 : decode cX8_listen 52 = .ok (.goto 45, 3) := by decide +kernel
theorem dX8_listen_55 : decode cX8_listen 55 = .ok (.aload_n 0, 1) := by decide +kernel
theorem dX8_listen_56 : decode cX8_listen 56 = .ok (.dup, 1) := by decide +kernel
theorem dX8_listen_57 : decode cX8_listen 57 = .ok (.getfield 15, 3) := by decide +kernel
theorem dX8_listen_60 : decode cX8_listen 60 = .ok (.iconst 1, 1) := by decide +kernel
theorem dX8_listen_61 : decode cX8_listen 61 = .ok (.iload 4, 2) := by decide +kernel
theorem dX8_listen_63 : decode cX8_listen 63 = .ok (.ishl, 1) := by decide +kernel
theorem dX8_listen_64 : decode cX8_listen 64 = .ok (.ior, 1) := by decide +kernel
theorem dX8_listen_65 : decode cX8_listen 65 = .ok (.putfield 15, 3) := by decide +kernel
theorem dX8_listen_68 : decode cX8_listen 68 = .ok (.aload_n 0, 1) := by decide +kernel
theorem dX8_listen_69 : decode cX8_listen 69 = .ok (.dup, 1) := by decide +kernel
theorem dX8_listen_70 : decode cX8_listen 70 = .ok (.getfield 18, 3) := by decide +kernel
theorem dX8_listen_73 : decode cX8_listen 73 = .ok (.aload 5, 2) := by decide +kernel
theorem dX8_listen_75 : decode cX8_listen 75 = .ok (.getfield 58, 3) := by decide +kernel
theorem dX8_listen_78 : decode cX8_listen 78 = .ok (.iadd, 1) := by decide +kernel
theorem dX8_listen_79 : decode cX8_listen 79 = .ok (.putfield 18, 3) := by decide +kernel
theorem dX8_listen_82 : decode cX8_listen 82 = .ok (.aload_n 0, 1) := by decide +kernel
theorem dX8_listen_83 : decode cX8_listen 83 = .ok (.iload 4, 2) := by decide +kernel
theorem dX8_listen_85 : decode cX8_listen 85 = .ok (.putfield 21, 3) := by decide +kernel
theorem dX8_listen_88 : decode cX8_listen 88 = .ok (.iinc 2 1, 3) := by decide +kernel
theorem dX8_listen_91 : decode cX8_listen 91 = .ok (.iinc 3 1, 3) := by decide +kernel
theorem dX8_listen_94 : decode cX8_listen 94 = .ok (.goto (-90), 3) := by decide +kernel
theorem dX8_listen_97 : decode cX8_listen 97 = .ok (.iload_n 2, 1) := by decide +kernel
theorem dX8_listen_98 : decode cX8_listen 98 = .ok (.ireturn, 1) := by decide +kernel
theorem dX8_arrive_0 : decode cX8_arrive 0 = .ok (.aload_n 0, 1) := by decide +kernel
theorem dX8_arrive_1 : decode cX8_arrive 1 = .ok (.iload_n 1, 1) := by decide +kernel
theorem dX8_arrive_2 : decode cX8_arrive 2 = .ok (.putfield 9, 3) := by decide +kernel
theorem dX8_arrive_5 : decode cX8_arrive 5 = .ok (.aload_n 0, 1) := by decide +kernel
theorem dX8_arrive_6 : decode cX8_arrive 6 = .ok (.invokevirtual 63, 3) := by decide +kernel
theorem dX8_arrive_9 : decode cX8_arrive 9 = .ok (.aload_n 0, 1) := by decide +kernel
theorem dX8_arrive_10 : decode cX8_arrive 10 = .ok (.iload_n 2, 1) := by decide +kernel
theorem dX8_arrive_11 : decode cX8_arrive 11 = .ok (.invokevirtual 66, 3) := by decide +kernel
theorem dX8_arrive_14 : decode cX8_arrive 14 = .ok (.ireturn, 1) := by decide +kernel
theorem dX8_takeReading_0 : decode cX8_takeReading 0 = .ok (.aload_n 1, 1) := by decide +kernel
theorem dX8_takeReading_1 : decode cX8_takeReading 1 = .ok (.iload_n 3, 1) := by decide +kernel
theorem dX8_takeReading_2 : decode cX8_takeReading 2 = .ok (.iload 4, 2) := by decide +kernel
theorem dX8_takeReading_4 : decode cX8_takeReading 4 = .ok (.iload 5, 2) := by decide +kernel
theorem dX8_takeReading_6 : decode cX8_takeReading 6 = .ok (.invokevirtual 70, 3) := by decide +kernel
theorem dX8_takeReading_9 : decode cX8_takeReading 9 = .ok (.istore 6, 2) := by decide +kernel
theorem dX8_takeReading_11 : decode cX8_takeReading 11 = .ok (.iload 6, 2) := by decide +kernel
theorem dX8_takeReading_13 : decode cX8_takeReading 13 = .ok (.aload_n 0, 1) := by decide +kernel
theorem dX8_takeReading_14 : decode cX8_takeReading 14 = .ok (.getfield 9, 3) := by decide +kernel
theorem dX8_takeReading_17 : decode cX8_takeReading 17 = .ok (.invokestatic 76, 3) := by decide +kernel
theorem dX8_takeReading_20 : decode cX8_takeReading 20 = .ok (.ifCond .eq 10, 3) := by decide +kernel
theorem dX8_takeReading_23 : decode cX8_takeReading 23 = .ok (.aload_n 0, 1) := by decide +kernel
theorem dX8_takeReading_24 : decode cX8_takeReading 24 = .ok (.invokevirtual 63, 3) := by decide +kernel
theorem dX8_takeReading_27 : decode cX8_takeReading 27 = .ok (.goto 23, 3) := by decide +kernel
theorem dX8_takeReading_30 : decode cX8_takeReading 30 = .ok (.iload 6, 2) := by decide +kernel
theorem dX8_takeReading_32 : decode cX8_takeReading 32 = .ok (.invokestatic 80, 3) := by decide +kernel
theorem dX8_takeReading_35 : decode cX8_takeReading 35 = .ok (.iconst 1, 1) := by decide +kernel
theorem dX8_takeReading_36 : decode cX8_takeReading 36 = .ok (.if_icmp .ne 14, 3) := by decide +kernel
theorem dX8_takeReading_39 : decode cX8_takeReading 39 = .ok (.aload_n 0, 1) := by decide +kernel
theorem dX8_takeReading_40 : decode cX8_takeReading 40 = .ok (.aload_n 1, 1) := by decide +kernel
theorem dX8_takeReading_41 : decode cX8_takeReading 41 = .ok (.iload_n 2, 1) := by decide +kernel
theorem dX8_takeReading_42 : decode cX8_takeReading 42 = .ok (.iload 6, 2) := by decide +kernel
theorem dX8_takeReading_44 : decode cX8_takeReading 44 = .ok (.invokestatic 85, 3) := by decide +kernel
theorem dX8_takeReading_47 : decode cX8_takeReading 47 = .ok (.invokevirtual 88, 3) := by decide +kernel
theorem dX8_takeReading_50 : decode cX8_takeReading 50 = .ok (.return_, 1) := by decide +kernel
theorem dX8_sight_0 : decode cX8_sight 0 = .ok (.iload_n 3, 1) := by decide +kernel
theorem dX8_sight_1 : decode cX8_sight 1 = .ok (.aload_n 0, 1) := by decide +kernel
theorem dX8_sight_2 : decode cX8_sight 2 = .ok (.getfield 24, 3) := by decide +kernel
theorem dX8_sight_5 : decode cX8_sight 5 = .ok (.if_icmp .eq 13, 3) := by decide +kernel
theorem dX8_sight_8 : decode cX8_sight 8 = .ok (.aload_n 0, 1) := by decide +kernel
theorem dX8_sight_9 : decode cX8_sight 9 = .ok (.iload_n 3, 1) := by decide +kernel
theorem dX8_sight_10 : decode cX8_sight 10 = .ok (.putfield 24, 3) := by decide +kernel
theorem dX8_sight_13 : decode cX8_sight 13 = .ok (.aload_n 0, 1) := by decide +kernel
theorem dX8_sight_14 : decode cX8_sight 14 = .ok (.iconst 0, 1) := by decide +kernel
theorem dX8_sight_15 : decode cX8_sight 15 = .ok (.putfield 27, 3) := by decide +kernel
theorem dX8_sight_18 : decode cX8_sight 18 = .ok (.aload_n 0, 1) := by decide +kernel
theorem dX8_sight_19 : decode cX8_sight 19 = .ok (.dup, 1) := by decide +kernel
theorem dX8_sight_20 : decode cX8_sight 20 = .ok (.getfield 27, 3) := by decide +kernel
theorem dX8_sight_23 : decode cX8_sight 23 = .ok (.iconst 1, 1) := by decide +kernel
theorem dX8_sight_24 : decode cX8_sight 24 = .ok (.iadd, 1) := by decide +kernel
theorem dX8_sight_25 : decode cX8_sight 25 = .ok (.putfield 27, 3) := by decide +kernel
theorem dX8_sight_28 : decode cX8_sight 28 = .ok (.aload_n 1, 1) := by decide +kernel
theorem dX8_sight_29 : decode cX8_sight 29 = .ok (.aload_n 0, 1) := by decide +kernel
theorem dX8_sight_30 : decode cX8_sight 30 = .ok (.getfield 9, 3) := by decide +kernel
theorem dX8_sight_33 : decode cX8_sight 33 = .ok (.iload_n 3, 1) := by decide +kernel
theorem dX8_sight_34 : decode cX8_sight 34 = .ok (.iload_n 2, 1) := by decide +kernel
theorem dX8_sight_35 : decode cX8_sight 35 = .ok (.aload_n 0, 1) := by decide +kernel
theorem dX8_sight_36 : decode cX8_sight 36 = .ok (.getfield 37, 3) := by decide +kernel
theorem dX8_sight_39 : decode cX8_sight 39 = .ok (.invokevirtual 92, 3) := by decide +kernel
theorem dX8_sight_42 : decode cX8_sight 42 = .ok (.ifCond .eq 7, 3) := by decide +kernel
theorem dX8_sight_45 : decode cX8_sight 45 = .ok (.iconst 2, 1) := by decide +kernel
theorem dX8_sight_46 : decode cX8_sight 46 = .ok (.goto 4, 3) := by decide +kernel
theorem dX8_sight_49 : decode cX8_sight 49 = .ok (.iconst 4, 1) := by decide +kernel
theorem dX8_sight_50 : decode cX8_sight 50 = .ok (.istore 4, 2) := by decide +kernel
theorem dX8_sight_52 : decode cX8_sight 52 = .ok (.aload_n 0, 1) := by decide +kernel
theorem dX8_sight_53 : decode cX8_sight 53 = .ok (.getfield 27, 3) := by decide +kernel
theorem dX8_sight_56 : decode cX8_sight 56 = .ok (.iload 4, 2) := by decide +kernel
theorem dX8_sight_58 : decode cX8_sight 58 = .ok (.if_icmp .lt 10, 3) := by decide +kernel
theorem dX8_sight_61 : decode cX8_sight 61 = .ok (.aload_n 0, 1) := by decide +kernel
theorem dX8_sight_62 : decode cX8_sight 62 = .ok (.iload_n 3, 1) := by decide +kernel
theorem dX8_sight_63 : decode cX8_sight 63 = .ok (.iload_n 2, 1) := by decide +kernel
theorem dX8_sight_64 : decode cX8_sight 64 = .ok (.invokevirtual 96, 3) := by decide +kernel
theorem dX8_sight_67 : decode cX8_sight 67 = .ok (.pop, 1) := by decide +kernel
theorem dX8_sight_68 : decode cX8_sight 68 = .ok (.return_, 1) := by decide +kernel
theorem dX8_forgetSightings_0 : decode cX8_forgetSightings 0 = .ok (.aload_n 0, 1) := by decide +kernel
theorem dX8_forgetSightings_1 : decode cX8_forgetSightings 1 = .ok (.iconst (-1), 1) := by decide +kernel
theorem dX8_forgetSightings_2 : decode cX8_forgetSightings 2 = .ok (.putfield 24, 3) := by decide +kernel
theorem dX8_forgetSightings_5 : decode cX8_forgetSightings 5 = .ok (.aload_n 0, 1) := by decide +kernel
theorem dX8_forgetSightings_6 : decode cX8_forgetSightings 6 = .ok (.iconst 0, 1) := by decide +kernel
theorem dX8_forgetSightings_7 : decode cX8_forgetSightings 7 = .ok (.putfield 27, 3) := by decide +kernel
theorem dX8_forgetSightings_10 : decode cX8_forgetSightings 10 = .ok (.return_, 1) := by decide +kernel
theorem dX9_init_0 : decode cX9_init 0 = .ok (.aload_n 0, 1) := by decide +kernel
theorem dX9_init_1 : decode cX9_init 1 = .ok (.invokespecial 1, 3) := by decide +kernel
theorem dX9_init_4 : decode cX9_init 4 = .ok (.aload_n 0, 1) := by decide +kernel
theorem dX9_init_5 : decode cX9_init 5 = .ok (.iconst 0, 1) := by decide +kernel
theorem dX9_init_6 : decode cX9_init 6 = .ok (.putfield 7, 3) := by decide +kernel
theorem dX9_init_9 : decode cX9_init 9 = .ok (.aload_n 0, 1) := by decide +kernel
theorem dX9_init_10 : decode cX9_init 10 = .ok (.iload_n 1, 1) := by decide +kernel
theorem dX9_init_11 : decode cX9_init 11 = .ok (.putfield 13, 3) := by decide +kernel
theorem dX9_init_14 : decode cX9_init 14 = .ok (.aload_n 0, 1) := by decide +kernel
theorem dX9_init_15 : decode cX9_init 15 = .ok (.iload_n 2, 1) := by decide +kernel
theorem dX9_init_16 : decode cX9_init 16 = .ok (.putfield 16, 3) := by decide +kernel
theorem dX9_init_19 : decode cX9_init 19 = .ok (.aload_n 0, 1) := by decide +kernel
theorem dX9_init_20 : decode cX9_init 20 = .ok (.iload_n 3, 1) := by decide +kernel
theorem dX9_init_21 : decode cX9_init 21 = .ok (.putfield 19, 3) := by decide +kernel
theorem dX9_init_24 : decode cX9_init 24 = .ok (.aload_n 0, 1) := by decide +kernel
theorem dX9_init_25 : decode cX9_init 25 = .ok (.iload 4, 2) := by decide +kernel
theorem dX9_init_27 : decode cX9_init 27 = .ok (.putfield 22, 3) := by decide +kernel
theorem dX9_init_30 : decode cX9_init 30 = .ok (.return_, 1) := by decide +kernel
theorem dX9_leadsFrom_0 : decode cX9_leadsFrom 0 = .ok (.iload_n 1, 1) := by decide +kernel
theorem dX9_leadsFrom_1 : decode cX9_leadsFrom 1 = .ok (.aload_n 0, 1) := by decide +kernel
theorem dX9_leadsFrom_2 : decode cX9_leadsFrom 2 = .ok (.getfield 13, 3) := by decide +kernel
theorem dX9_leadsFrom_5 : decode cX9_leadsFrom 5 = .ok (.if_icmp .eq 11, 3) := by decide +kernel
theorem dX9_leadsFrom_8 : decode cX9_leadsFrom 8 = .ok (.iload_n 1, 1) := by decide +kernel
theorem dX9_leadsFrom_9 : decode cX9_leadsFrom 9 = .ok (.aload_n 0, 1) := by decide +kernel
theorem dX9_leadsFrom_10 : decode cX9_leadsFrom 10 = .ok (.getfield 16, 3) := by decide +kernel
theorem dX9_leadsFrom_13 : decode cX9_leadsFrom 13 = .ok (.if_icmp .ne 7, 3) := by decide +kernel
theorem dX9_leadsFrom_16 : decode cX9_leadsFrom 16 = .ok (.iconst 1, 1) := by decide +kernel
theorem dX9_leadsFrom_17 : decode cX9_leadsFrom 17 = .ok (.goto 4, 3) := by decide +kernel
theorem dX9_leadsFrom_20 : decode cX9_leadsFrom 20 = .ok (.iconst 0, 1) := by decide +kernel
theorem dX9_leadsFrom_21 : decode cX9_leadsFrom 21 = .ok (.ireturn, 1) := by decide +kernel
theorem dX9_otherEnd_0 : decode cX9_otherEnd 0 = .ok (.iload_n 1, 1) := by decide +kernel
theorem dX9_otherEnd_1 : decode cX9_otherEnd 1 = .ok (.aload_n 0, 1) := by decide +kernel
theorem dX9_otherEnd_2 : decode cX9_otherEnd 2 = .ok (.getfield 13, 3) := by decide +kernel
theorem dX9_otherEnd_5 : decode cX9_otherEnd 5 = .ok (.if_icmp .ne 10, 3) := by decide +kernel
theorem dX9_otherEnd_8 : decode cX9_otherEnd 8 = .ok (.aload_n 0, 1) := by decide +kernel
theorem dX9_otherEnd_9 : decode cX9_otherEnd 9 = .ok (.getfield 16, 3) := by decide +kernel
theorem dX9_otherEnd_12 : decode cX9_otherEnd 12 = .ok (.goto 7, 3) := by decide +kernel
theorem dX9_otherEnd_15 : decode cX9_otherEnd 15 = .ok (.aload_n 0, 1) := by decide +kernel
theorem dX9_otherEnd_16 : decode cX9_otherEnd 16 = .ok (.getfield 13, 3) := by decide +kernel
theorem dX9_otherEnd_19 : decode cX9_otherEnd 19 = .ok (.ireturn, 1) := by decide +kernel
theorem dX9_isShut_0 : decode cX9_isShut 0 = .ok (.aload_n 0, 1) := by decide +kernel
theorem dX9_isShut_1 : decode cX9_isShut 1 = .ok (.getfield 7, 3) := by decide +kernel
theorem dX9_isShut_4 : decode cX9_isShut 4 = .ok (.iload_n 1, 1) := by decide +kernel
theorem dX9_isShut_5 : decode cX9_isShut 5 = .ok (.invokestatic 26, 3) := by decide +kernel
theorem dX9_isShut_8 : decode cX9_isShut 8 = .ok (.ireturn, 1) := by decide +kernel
theorem dX9_isFor_0 : decode cX9_isFor 0 = .ok (.iload_n 1, 1) := by decide +kernel
theorem dX9_isFor_1 : decode cX9_isFor 1 = .ok (.ifCond .ne 10, 3) := by decide +kernel
theorem dX9_isFor_4 : decode cX9_isFor 4 = .ok (.aload_n 0, 1) := by decide +kernel
theorem dX9_isFor_5 : decode cX9_isFor 5 = .ok (.getfield 22, 3) := by decide +kernel
theorem dX9_isFor_8 : decode cX9_isFor 8 = .ok (.ifCond .ne 7, 3) := by decide +kernel
theorem dX9_isFor_11 : decode cX9_isFor 11 = .ok (.iconst 1, 1) := by decide +kernel
theorem dX9_isFor_12 : decode cX9_isFor 12 = .ok (.goto 4, 3) := by decide +kernel
theorem dX9_isFor_15 : decode cX9_isFor 15 = .ok (.iconst 0, 1) := by decide +kernel
theorem dX9_isFor_16 : decode cX9_isFor 16 = .ok (.ireturn, 1) := by decide +kernel
theorem dX9_isOpen_0 : decode cX9_isOpen 0 = .ok (.aload_n 0, 1) := by decide +kernel
theorem dX9_isOpen_1 : decode cX9_isOpen 1 = .ok (.iload_n 1, 1) := by decide +kernel
theorem dX9_isOpen_2 : decode cX9_isOpen 2 = .ok (.invokevirtual 32, 3) := by decide +kernel
theorem dX9_isOpen_5 : decode cX9_isOpen 5 = .ok (.ifCond .ne 15, 3) := by decide +kernel
theorem dX9_isOpen_8 : decode cX9_isOpen 8 = .ok (.aload_n 0, 1) := by decide +kernel
theorem dX9_isOpen_9 : decode cX9_isOpen 9 = .ok (.iload_n 2, 1) := by decide +kernel
theorem dX9_isOpen_10 : decode cX9_isOpen 10 = .ok (.invokevirtual 36, 3) := by decide +kernel
theorem dX9_isOpen_13 : decode cX9_isOpen 13 = .ok (.ifCond .eq 7, 3) := by decide +kernel
theorem dX9_isOpen_16 : decode cX9_isOpen 16 = .ok (.iconst 1, 1) := by decide +kernel
theorem dX9_isOpen_17 : decode cX9_isOpen 17 = .ok (.goto 4, 3) := by decide +kernel
theorem dX9_isOpen_20 : decode cX9_isOpen 20 = .ok (.iconst 0, 1) := by decide +kernel
theorem dX9_isOpen_21 : decode cX9_isOpen 21 = .ok (.ireturn, 1) := by decide +kernel
