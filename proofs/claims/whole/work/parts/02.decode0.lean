theorem dX0_init_0 : decode cX0_init 0 = .ok (.aload_n 0, 1) := by decide +kernel
theorem dX0_init_1 : decode cX0_init 1 = .ok (.invokespecial 3, 3) := by decide +kernel
theorem dX0_init_4 : decode cX0_init 4 = .ok (.aload_n 0, 1) := by decide +kernel
theorem dX0_init_5 : decode cX0_init 5 = .ok (.bipush 12, 2) := by decide +kernel
theorem dX0_init_7 : decode cX0_init 7 = .ok (.anewarray 9, 3) := by decide +kernel
theorem dX0_init_10 : decode cX0_init 10 = .ok (.putfield 11, 3) := by decide +kernel
theorem dX0_init_13 : decode cX0_init 13 = .ok (.aload_n 0, 1) := by decide +kernel
theorem dX0_init_14 : decode cX0_init 14 = .ok (.iconst 0, 1) := by decide +kernel
theorem dX0_init_15 : decode cX0_init 15 = .ok (.putfield 17, 3) := by decide +kernel
theorem dX0_init_18 : decode cX0_init 18 = .ok (.aload_n 0, 1) := by decide +kernel
theorem dX0_init_19 : decode cX0_init 19 = .ok (.iconst 0, 1) := by decide +kernel
theorem dX0_init_20 : decode cX0_init 20 = .ok (.putfield 21, 3) := by decide +kernel
theorem dX0_init_23 : decode cX0_init 23 = .ok (.return_, 1) := by decide +kernel
theorem dX0_addPiece_0 : decode cX0_addPiece 0 = .ok (.aload_n 1, 1) := by decide +kernel
theorem dX0_addPiece_1 : decode cX0_addPiece 1 = .ok (.getfield 24, 3) := by decide +kernel
theorem dX0_addPiece_4 : decode cX0_addPiece 4 = .ok (.iconst 3, 1) := by decide +kernel
theorem dX0_addPiece_5 : decode cX0_addPiece 5 = .ok (.if_icmp .ne 18, 3) := by decide +kernel
theorem dX0_addPiece_8 : decode cX0_addPiece 8 = .ok (.aload_n 0, 1) := by decide +kernel
theorem dX0_addPiece_9 : decode cX0_addPiece 9 = .ok (.dup, 1) := by decide +kernel
theorem dX0_addPiece_10 : decode cX0_addPiece 10 = .ok (.getfield 21, 3) := by decide +kernel
theorem dX0_addPiece_13 : decode cX0_addPiece 13 = .ok (.iconst 1, 1) := by decide +kernel
theorem dX0_addPiece_14 : decode cX0_addPiece 14 = .ok (.aload_n 0, 1) := by decide +kernel
theorem dX0_addPiece_15 : decode cX0_addPiece 15 = .ok (.getfield 17, 3) := by decide +kernel
theorem dX0_addPiece_18 : decode cX0_addPiece 18 = .ok (.ishl, 1) := by decide +kernel
theorem dX0_addPiece_19 : decode cX0_addPiece 19 = .ok (.ior, 1) := by decide +kernel
theorem dX0_addPiece_20 : decode cX0_addPiece 20 = .ok (.putfield 21, 3) := by decide +kernel
theorem dX0_addPiece_23 : decode cX0_addPiece 23 = .ok (.aload_n 0, 1) := by decide +kernel
theorem dX0_addPiece_24 : decode cX0_addPiece 24 = .ok (.getfield 11, 3) := by decide +kernel
theorem dX0_addPiece_27 : decode cX0_addPiece 27 = .ok (.aload_n 0, 1) := by decide +kernel
theorem dX0_addPiece_28 : decode cX0_addPiece 28 = .ok (.getfield 17, 3) := by decide +kernel
theorem dX0_addPiece_31 : decode cX0_addPiece 31 = .ok (.aload_n 1, 1) := by decide +kernel
theorem dX0_addPiece_32 : decode cX0_addPiece 32 = .ok (.aastore, 1) := by decide +kernel
theorem dX0_addPiece_33 : decode cX0_addPiece 33 = .ok (.aload_n 0, 1) := by decide +kernel
theorem dX0_addPiece_34 : decode cX0_addPiece 34 = .ok (.dup, 1) := by decide +kernel
theorem dX0_addPiece_35 : decode cX0_addPiece 35 = .ok (.getfield 17, 3) := by decide +kernel
theorem dX0_addPiece_38 : decode cX0_addPiece 38 = .ok (.iconst 1, 1) := by decide +kernel
theorem dX0_addPiece_39 : decode cX0_addPiece 39 = .ok (.iadd, 1) := by decide +kernel
theorem dX0_addPiece_40 : decode cX0_addPiece 40 = .ok (.putfield 17, 3) := by decide +kernel
theorem dX0_addPiece_43 : decode cX0_addPiece 43 = .ok (.return_, 1) := by decide +kernel
theorem dX0_findPiece_0 : decode cX0_findPiece 0 = .ok (.iload_n 1, 1) := by decide +kernel
theorem dX0_findPiece_1 : decode cX0_findPiece 1 = .ok (.iconst 0, 1) := by decide +kernel
theorem dX0_findPiece_2 : decode cX0_findPiece 2 = .ok (.aload_n 0, 1) := by decide +kernel
theorem dX0_findPiece_3 : decode cX0_findPiece 3 = .ok (.getfield 17, 3) := by decide +kernel
theorem dX0_findPiece_6 : decode cX0_findPiece 6 = .ok (.iconst 1, 1) := by decide +kernel
theorem dX0_findPiece_7 : decode cX0_findPiece 7 = .ok (.isub, 1) := by decide +kernel
theorem dX0_findPiece_8 : decode cX0_findPiece 8 = .ok (.invokestatic 27, 3) := by decide +kernel
theorem dX0_findPiece_11 : decode cX0_findPiece 11 = .ok (.ifCond .eq 12, 3) := by decide +kernel
theorem dX0_findPiece_14 : decode cX0_findPiece 14 = .ok (.aload_n 0, 1) := by decide +kernel
theorem dX0_findPiece_15 : decode cX0_findPiece 15 = .ok (.getfield 11, 3) := by decide +kernel
theorem dX0_findPiece_18 : decode cX0_findPiece 18 = .ok (.iload_n 1, 1) := by decide +kernel
theorem dX0_findPiece_19 : decode cX0_findPiece 19 = .ok (.aaload, 1) := by decide +kernel
theorem dX0_findPiece_20 : decode cX0_findPiece 20 = .ok (.goto 4, 3) := by decide +kernel
theorem dX0_findPiece_23 : decode cX0_findPiece 23 = .ok (.aconst_null, 1) := by decide +kernel
theorem dX0_findPiece_24 : decode cX0_findPiece 24 = .ok (.areturn, 1) := by decide +kernel
theorem dX0_allPieces_0 : decode cX0_allPieces 0 = .ok (.iconst 1, 1) := by decide +kernel
theorem dX0_allPieces_1 : decode cX0_allPieces 1 = .ok (.aload_n 0, 1) := by decide +kernel
theorem dX0_allPieces_2 : decode cX0_allPieces 2 = .ok (.getfield 17, 3) := by decide +kernel
theorem dX0_allPieces_5 : decode cX0_allPieces 5 = .ok (.ishl, 1) := by decide +kernel
theorem dX0_allPieces_6 : decode cX0_allPieces 6 = .ok (.iconst 1, 1) := by decide +kernel
theorem dX0_allPieces_7 : decode cX0_allPieces 7 = .ok (.isub, 1) := by decide +kernel
theorem dX0_allPieces_8 : decode cX0_allPieces 8 = .ok (.ireturn, 1) := by decide +kernel
theorem dX0_isOver_0 : decode cX0_isOver 0 = .ok (.iload_n 1, 1) := by decide +kernel
theorem dX0_isOver_1 : decode cX0_isOver 1 = .ok (.aload_n 0, 1) := by decide +kernel
theorem dX0_isOver_2 : decode cX0_isOver 2 = .ok (.getfield 21, 3) := by decide +kernel
theorem dX0_isOver_5 : decode cX0_isOver 5 = .ok (.iand, 1) := by decide +kernel
theorem dX0_isOver_6 : decode cX0_isOver 6 = .ok (.ifCond .eq 7, 3) := by decide +kernel
theorem dX0_isOver_9 : decode cX0_isOver 9 = .ok (.iconst 1, 1) := by decide +kernel
theorem dX0_isOver_10 : decode cX0_isOver 10 = .ok (.goto 4, 3) := by decide +kernel
theorem dX0_isOver_13 : decode cX0_isOver 13 = .ok (.iconst 0, 1) := by decide +kernel
theorem dX0_isOver_14 : decode cX0_isOver 14 = .ok (.ireturn, 1) := by decide +kernel
theorem dX0_nextPiece_0 : decode cX0_nextPiece 0 = .ok (.iload_n 1, 1) := by decide +kernel
theorem dX0_nextPiece_1 : decode cX0_nextPiece 1 = .ok (.istore 5, 2) := by decide +kernel
theorem dX0_nextPiece_3 : decode cX0_nextPiece 3 = .ok (.iload 5, 2) := by decide +kernel
theorem dX0_nextPiece_5 : decode cX0_nextPiece 5 = .ok (.aload_n 0, 1) := by decide +kernel
theorem dX0_nextPiece_6 : decode cX0_nextPiece 6 = .ok (.getfield 17, 3) := by decide +kernel
theorem dX0_nextPiece_9 : decode cX0_nextPiece 9 = .ok (.if_icmp .ge 38, 3) := by decide +kernel
theorem dX0_nextPiece_12 : decode cX0_nextPiece 12 = .ok (.iload_n 3, 1) := by decide +kernel
theorem dX0_nextPiece_13 : decode cX0_nextPiece 13 = .ok (.iload 5, 2) := by decide +kernel
theorem dX0_nextPiece_15 : decode cX0_nextPiece 15 = .ok (.invokestatic 31, 3) := by decide +kernel
theorem dX0_nextPiece_18 : decode cX0_nextPiece 18 = .ok (.ifCond .ne 23, 3) := by decide +kernel
theorem dX0_nextPiece_21 : decode cX0_nextPiece 21 = .ok (.aload_n 0, 1) := by decide +kernel
theorem dX0_nextPiece_22 : decode cX0_nextPiece 22 = .ok (.getfield 11, 3) := by decide +kernel
theorem dX0_nextPiece_25 : decode cX0_nextPiece 25 = .ok (.iload 5, 2) := by decide +kernel
theorem dX0_nextPiece_27 : decode cX0_nextPiece 27 = .ok (.aaload, 1) := by decide +kernel
theorem dX0_nextPiece_28 : decode cX0_nextPiece 28 = .ok (.iload_n 2, 1) := by decide +kernel
theorem dX0_nextPiece_29 : decode cX0_nextPiece 29 = .ok (.iload_n 3, 1) := by decide +kernel
theorem dX0_nextPiece_30 : decode cX0_nextPiece 30 = .ok (.iload 4, 2) := by decide +kernel
theorem dX0_nextPiece_32 : decode cX0_nextPiece 32 = .ok (.invokevirtual 35, 3) := by decide +kernel
theorem dX0_nextPiece_35 : decode cX0_nextPiece 35 = .ok (.ifCond .eq 6, 3) := by decide +kernel
theorem dX0_nextPiece_38 : decode cX0_nextPiece 38 = .ok (.iload 5, 2) := by decide +kernel
theorem dX0_nextPiece_40 : decode cX0_nextPiece 40 = .ok (.ireturn, 1) := by decide +kernel
theorem dX0_nextPiece_41 : decode cX0_nextPiece 41 = .ok (.iinc 5 1, 3) := by decide +kernel
theorem dX0_nextPiece_44 : decode cX0_nextPiece 44 = .ok (.goto (-41), 3) := by decide +kernel
theorem dX0_nextPiece_47 : decode cX0_nextPiece 47 = .ok (.iconst (-1), 1) := by decide +kernel
theorem dX0_nextPiece_48 : decode cX0_nextPiece 48 = .ok (.ireturn, 1) := by decide +kernel
theorem dX0_hasTwoVoices_0 : decode cX0_hasTwoVoices 0 = .ok (.aload_n 0, 1) := by decide +kernel
theorem dX0_hasTwoVoices_1 : decode cX0_hasTwoVoices 1 = .ok (.iconst 0, 1) := by decide +kernel
theorem dX0_hasTwoVoices_2 : decode cX0_hasTwoVoices 2 = .ok (.iload_n 1, 1) := by decide +kernel
theorem dX0_hasTwoVoices_3 : decode cX0_hasTwoVoices 3 = .ok (.iload_n 2, 1) := by decide +kernel
theorem dX0_hasTwoVoices_4 : decode cX0_hasTwoVoices 4 = .ok (.iload_n 3, 1) := by decide +kernel
theorem dX0_hasTwoVoices_5 : decode cX0_hasTwoVoices 5 = .ok (.invokevirtual 38, 3) := by decide +kernel
theorem dX0_hasTwoVoices_8 : decode cX0_hasTwoVoices 8 = .ok (.istore 4, 2) := by decide +kernel
theorem dX0_hasTwoVoices_10 : decode cX0_hasTwoVoices 10 = .ok (.iload 4, 2) := by decide +kernel
theorem dX0_hasTwoVoices_12 : decode cX0_hasTwoVoices 12 = .ok (.ifCond .lt 21, 3) := by decide +kernel
theorem dX0_hasTwoVoices_15 : decode cX0_hasTwoVoices 15 = .ok (.aload_n 0, 1) := by decide +kernel
theorem dX0_hasTwoVoices_16 : decode cX0_hasTwoVoices 16 = .ok (.iload 4, 2) := by decide +kernel
theorem dX0_hasTwoVoices_18 : decode cX0_hasTwoVoices 18 = .ok (.iconst 1, 1) := by decide +kernel
theorem dX0_hasTwoVoices_19 : decode cX0_hasTwoVoices 19 = .ok (.iadd, 1) := by decide +kernel
theorem dX0_hasTwoVoices_20 : decode cX0_hasTwoVoices 20 = .ok (.iload_n 1, 1) := by decide +kernel
theorem dX0_hasTwoVoices_21 : decode cX0_hasTwoVoices 21 = .ok (.iload_n 2, 1) := by decide +kernel
theorem dX0_hasTwoVoices_22 : decode cX0_hasTwoVoices 22 = .ok (.iload_n 3, 1) := by decide +kernel
theorem dX0_hasTwoVoices_23 : decode cX0_hasTwoVoices 23 = .ok (.invokevirtual 38, 3) := by decide +kernel
theorem dX0_hasTwoVoices_26 : decode cX0_hasTwoVoices 26 = .ok (.ifCond .lt 7, 3) := by decide +kernel
theorem dX0_hasTwoVoices_29 : decode cX0_hasTwoVoices 29 = .ok (.iconst 1, 1) := by decide +kernel
theorem dX0_hasTwoVoices_30 : decode cX0_hasTwoVoices 30 = .ok (.goto 4, 3) := by decide +kernel
theorem dX0_hasTwoVoices_33 : decode cX0_hasTwoVoices 33 = .ok (.iconst 0, 1) := by decide +kernel
theorem dX0_hasTwoVoices_34 : decode cX0_hasTwoVoices 34 = .ok (.ireturn, 1) := by decide +kernel
theorem dX1_init_0 : decode cX1_init 0 = .ok (.aload_n 0, 1) := by decide +kernel
theorem dX1_init_1 : decode cX1_init 1 = .ok (.invokespecial 3, 3) := by decide +kernel
theorem dX1_init_4 : decode cX1_init 4 = .ok (.aload_n 0, 1) := by decide +kernel
theorem dX1_init_5 : decode cX1_init 5 = .ok (.bipush 64, 2) := by decide +kernel
theorem dX1_init_7 : decode cX1_init 7 = .ok (.newarray .int, 2) := by decide +kernel
theorem dX1_init_9 : decode cX1_init 9 = .ok (.putfield 9, 3) := by decide +kernel
theorem dX1_init_12 : decode cX1_init 12 = .ok (.aload_n 0, 1) := by decide +kernel
theorem dX1_init_13 : decode cX1_init 13 = .ok (.bipush 8, 2) := by decide +kernel
theorem dX1_init_15 : decode cX1_init 15 = .ok (.newarray .int, 2) := by decide +kernel
theorem dX1_init_17 : decode cX1_init 17 = .ok (.putfield 15, 3) := by decide +kernel
theorem dX1_init_20 : decode cX1_init 20 = .ok (.return_, 1) := by decide +kernel
theorem dX1_lay_0 : decode cX1_lay 0 = .ok (.aload_n 0, 1) := by decide +kernel
theorem dX1_lay_1 : decode cX1_lay 1 = .ok (.getfield 9, 3) := by decide +kernel
theorem dX1_lay_4 : decode cX1_lay 4 = .ok (.ldc 18, 2) := by decide +kernel
theorem dX1_lay_6 : decode cX1_lay 6 = .ok (.invokestatic 19, 3) := by decide +kernel
theorem dX1_lay_9 : decode cX1_lay 9 = .ok (.aload_n 0, 1) := by decide +kernel
theorem dX1_lay_10 : decode cX1_lay 10 = .ok (.getfield 15, 3) := by decide +kernel
theorem dX1_lay_13 : decode cX1_lay 13 = .ok (.iconst 0, 1) := by decide +kernel
theorem dX1_lay_14 : decode cX1_lay 14 = .ok (.invokestatic 19, 3) := by decide +kernel
theorem dX1_lay_17 : decode cX1_lay 17 = .ok (.iconst 0, 1) := by decide +kernel
theorem dX1_lay_18 : decode cX1_lay 18 = .ok (.istore 4, 2) := by decide +kernel
theorem dX1_lay_20 : decode cX1_lay 20 = .ok (.iload 4, 2) := by decide +kernel
theorem dX1_lay_22 : decode cX1_lay 22 = .ok (.aload_n 1, 1) := by decide +kernel
theorem dX1_lay_23 : decode cX1_lay 23 = .ok (.getfield 25, 3) := by decide +kernel
theorem dX1_lay_26 : decode cX1_lay 26 = .ok (.if_icmp .ge 66, 3) := by decide +kernel
theorem dX1_lay_29 : decode cX1_lay 29 = .ok (.aload_n 1, 1) := by decide +kernel
theorem dX1_lay_30 : decode cX1_lay 30 = .ok (.getfield 31, 3) := by decide +kernel
theorem dX1_lay_33 : decode cX1_lay 33 = .ok (.iload 4, 2) := by decide +kernel
theorem dX1_lay_35 : decode cX1_lay 35 = .ok (.aaload, 1) := by decide +kernel
theorem dX1_lay_36 : decode cX1_lay 36 = .ok (.astore 5, 2) := by decide +kernel
theorem dX1_lay_38 : decode cX1_lay 38 = .ok (.aload 5, 2) := by decide +kernel
theorem dX1_lay_40 : decode cX1_lay 40 = .ok (.iload_n 2, 1) := by decide +kernel
theorem dX1_lay_41 : decode cX1_lay 41 = .ok (.iload_n 3, 1) := by decide +kernel
theorem dX1_lay_42 : decode cX1_lay 42 = .ok (.invokevirtual 35, 3) := by decide +kernel
theorem dX1_lay_45 : decode cX1_lay 45 = .ok (.ifCond .eq 41, 3) := by decide +kernel
theorem dX1_lay_48 : decode cX1_lay 48 = .ok (.aload_n 0, 1) := by decide +kernel
theorem dX1_lay_49 : decode cX1_lay 49 = .ok (.aload 5, 2) := by decide +kernel
theorem dX1_lay_51 : decode cX1_lay 51 = .ok (.getfield 41, 3) := by decide +kernel
theorem dX1_lay_54 : decode cX1_lay 54 = .ok (.aload 5, 2) := by decide +kernel
theorem dX1_lay_56 : decode cX1_lay 56 = .ok (.getfield 44, 3) := by decide +kernel
theorem dX1_lay_59 : decode cX1_lay 59 = .ok (.aload 5, 2) := by decide +kernel
theorem dX1_lay_61 : decode cX1_lay 61 = .ok (.getfield 47, 3) := by decide +kernel
theorem dX1_lay_64 : decode cX1_lay 64 = .ok (.invokevirtual 50, 3) := by decide +kernel
theorem dX1_lay_67 : decode cX1_lay 67 = .ok (.aload_n 0, 1) := by decide +kernel
theorem dX1_lay_68 : decode cX1_lay 68 = .ok (.aload 5, 2) := by decide +kernel
theorem dX1_lay_70 : decode cX1_lay 70 = .ok (.getfield 44, 3) := by decide +kernel
theorem dX1_lay_73 : decode cX1_lay 73 = .ok (.aload 5, 2) := by decide +kernel
theorem dX1_lay_75 : decode cX1_lay 75 = .ok (.getfield 41, 3) := by decide +kernel
theorem dX1_lay_78 : decode cX1_lay 78 = .ok (.aload 5, 2) := by decide +kernel
theorem dX1_lay_80 : decode cX1_lay 80 = .ok (.getfield 47, 3) := by decide +kernel
theorem dX1_lay_83 : decode cX1_lay 83 = .ok (.invokevirtual 50, 3) := by decide +kernel
theorem dX1_lay_86 : decode cX1_lay 86 = .ok (.iinc 4 1, 3) := by decide +kernel
theorem dX1_lay_89 : decode cX1_lay 89 = .ok (.goto (-69), 3) := by decide +kernel
theorem dX1_lay_92 : decode cX1_lay 92 = .ok (.return_, 1) := by decide +kernel
theorem dX1_join_0 : decode cX1_join 0 = .ok (.iload_n 1, 1) := by decide +kernel
theorem dX1_join_1 : decode cX1_join 1 = .ok (.bipush 8, 2) := by decide +kernel
theorem dX1_join_3 : decode cX1_join 3 = .ok (.imul, 1) := by decide +kernel
theorem dX1_join_4 : decode cX1_join 4 = .ok (.iload_n 2, 1) := by decide +kernel
theorem dX1_join_5 : decode cX1_join 5 = .ok (.iadd, 1) := by decide +kernel
theorem dX1_join_6 : decode cX1_join 6 = .ok (.istore 4, 2) := by decide +kernel
theorem dX1_join_8 : decode cX1_join 8 = .ok (.aload_n 0, 1) := by decide +kernel
theorem dX1_join_9 : decode cX1_join 9 = .ok (.getfield 9, 3) := by decide +kernel
theorem dX1_join_12 : decode cX1_join 12 = .ok (.iload 4, 2) := by decide +kernel
theorem dX1_join_14 : decode cX1_join 14 = .ok (.aload_n 0, 1) := by decide +kernel
theorem dX1_join_15 : decode cX1_join 15 = .ok (.getfield 9, 3) := by decide +kernel
theorem dX1_join_18 : decode cX1_join 18 = .ok (.iload 4, 2) := by decide +kernel
theorem dX1_join_20 : decode cX1_join 20 = .ok (.iaload, 1) := by decide +kernel
theorem dX1_join_21 : decode cX1_join 21 = .ok (.iload_n 3, 1) := by decide +kernel
theorem dX1_join_22 : decode cX1_join 22 = .ok (.invokestatic 54, 3) := by decide +kernel
theorem dX1_join_25 : decode cX1_join 25 = .ok (.iastore, 1) := by decide +kernel
theorem dX1_join_26 : decode cX1_join 26 = .ok (.aload_n 0, 1) := by decide +kernel
theorem dX1_join_27 : decode cX1_join 27 = .ok (.getfield 15, 3) := by decide +kernel
theorem dX1_join_30 : decode cX1_join 30 = .ok (.iload_n 1, 1) := by decide +kernel
theorem dX1_join_31 : decode cX1_join 31 = .ok (.dup2, 1) := by decide +kernel
theorem dX1_join_32 : decode cX1_join 32 = .ok (.iaload, 1) := by decide +kernel
theorem dX1_join_33 : decode cX1_join 33 = .ok (.iconst 1, 1) := by decide +kernel
theorem dX1_join_34 : decode cX1_join 34 = .ok (.iload_n 2, 1) := by decide +kernel
theorem dX1_join_35 : decode cX1_join 35 = .ok (.ishl, 1) := by decide +kernel
theorem dX1_join_36 : decode cX1_join 36 = .ok (.ior, 1) := by decide +kernel
theorem dX1_join_37 : decode cX1_join 37 = .ok (.iastore, 1) := by decide +kernel
theorem dX1_join_38 : decode cX1_join 38 = .ok (.return_, 1) := by decide +kernel
theorem dX1_step_0 : decode cX1_step 0 = .ok (.aload_n 0, 1) := by decide +kernel
theorem dX1_step_1 : decode cX1_step 1 = .ok (.getfield 9, 3) := by decide +kernel
theorem dX1_step_4 : decode cX1_step 4 = .ok (.iload_n 1, 1) := by decide +kernel
theorem dX1_step_5 : decode cX1_step 5 = .ok (.bipush 8, 2) := by decide +kernel
theorem dX1_step_7 : decode cX1_step 7 = .ok (.imul, 1) := by decide +kernel
theorem dX1_step_8 : decode cX1_step 8 = .ok (.iload_n 2, 1) := by decide +kernel
theorem dX1_step_9 : decode cX1_step 9 = .ok (.iadd, 1) := by decide +kernel
theorem dX1_step_10 : decode cX1_step 10 = .ok (.iaload, 1) := by decide +kernel
theorem dX1_step_11 : decode cX1_step 11 = .ok (.ireturn, 1) := by decide +kernel
theorem dX1_lessen_0 : decode cX1_lessen 0 = .ok (.iload_n 3, 1) := by decide +kernel
theorem dX1_lessen_1 : decode cX1_lessen 1 = .ok (.ifCond .eq 7, 3) := by decide +kernel
theorem dX1_lessen_4 : decode cX1_lessen 4 = .ok (.iconst 1, 1) := by decide +kernel
theorem dX1_lessen_5 : decode cX1_lessen 5 = .ok (.goto 4, 3) := by decide +kernel
theorem dX1_lessen_8 : decode cX1_lessen 8 = .ok (.iconst 0, 1) := by decide +kernel
theorem dX1_lessen_9 : decode cX1_lessen 9 = .ok (.istore 4, 2) := by decide +kernel
theorem dX1_lessen_11 : decode cX1_lessen 11 = .ok (.iconst 0, 1) := by decide +kernel
theorem dX1_lessen_12 : decode cX1_lessen 12 = .ok (.istore 5, 2) := by decide +kernel
theorem dX1_lessen_14 : decode cX1_lessen 14 = .ok (.iload 5, 2) := by decide +kernel
theorem dX1_lessen_16 : decode cX1_lessen 16 = .ok (.bipush 8, 2) := by decide +kernel
theorem dX1_lessen_18 : decode cX1_lessen 18 = .ok (.if_icmp .ge 56, 3) := by decide +kernel
theorem dX1_lessen_21 : decode cX1_lessen 21 = .ok (.iload 4, 2) := by decide +kernel
theorem dX1_lessen_23 : decode cX1_lessen 23 = .ok (.ifCond .eq 51, 3) := by decide +kernel
theorem dX1_lessen_26 : decode cX1_lessen 26 = .ok (.iconst 0, 1) := by decide +kernel
theorem dX1_lessen_27 : decode cX1_lessen 27 = .ok (.istore 4, 2) := by decide +kernel
theorem dX1_lessen_29 : decode cX1_lessen 29 = .ok (.iconst 0, 1) := by decide +kernel
theorem dX1_lessen_30 : decode cX1_lessen 30 = .ok (.istore 6, 2) := by decide +kernel
theorem dX1_lessen_32 : decode cX1_lessen 32 = .ok (.iload 6, 2) := by decide +kernel
theorem dX1_lessen_34 : decode cX1_lessen 34 = .ok (.bipush 8, 2) := by decide +kernel
theorem dX1_lessen_36 : decode cX1_lessen 36 = .ok (.if_icmp .ge 32, 3) := by decide +kernel
theorem dX1_lessen_39 : decode cX1_lessen 39 = .ok (.iload_n 3, 1) := by decide +kernel
theorem dX1_lessen_40 : decode cX1_lessen 40 = .ok (.iload 6, 2) := by decide +kernel
theorem dX1_lessen_42 : decode cX1_lessen 42 = .ok (.invokestatic 60, 3) := by decide +kernel
theorem dX1_lessen_45 : decode cX1_lessen 45 = .ok (.ifCond .eq 17, 3) := by decide +kernel
theorem dX1_lessen_48 : decode cX1_lessen 48 = .ok (.aload_n 0, 1) := by decide +kernel
theorem dX1_lessen_49 : decode cX1_lessen 49 = .ok (.aload_n 1, 1) := by decide +kernel
theorem dX1_lessen_50 : decode cX1_lessen 50 = .ok (.iload_n 2, 1) := by decide +kernel
theorem dX1_lessen_51 : decode cX1_lessen 51 = .ok (.iload 6, 2) := by decide +kernel
theorem dX1_lessen_53 : decode cX1_lessen 53 = .ok (.invokevirtual 64, 3) := by decide +kernel
theorem dX1_lessen_56 : decode cX1_lessen 56 = .ok (.ifCond .eq 6, 3) := by decide +kernel
theorem dX1_lessen_59 : decode cX1_lessen 59 = .ok (.iconst 1, 1) := by decide +kernel
theorem dX1_lessen_60 : decode cX1_lessen 60 = .ok (.istore 4, 2) := by decide +kernel
theorem dX1_lessen_62 : decode cX1_lessen 62 = .ok (.iinc 6 1, 3) := by decide +kernel
theorem dX1_lessen_65 : decode cX1_lessen 65 = .ok (.goto (-33), 3) := by decide +kernel
theorem dX1_lessen_68 : decode cX1_lessen 68 = .ok (.iinc 5 1, 3) := by decide +kernel
theorem dX1_lessen_71 : decode cX1_lessen 71 = .ok (.goto (-57), 3) := by decide +kernel
theorem dX1_lessen_74 : decode cX1_lessen 74 = .ok (.return_, 1) := by decide +kernel
theorem dX1_lessenOne_0 : decode cX1_lessenOne 0 = .ok (.aload_n 1, 1) := by decide +kernel
theorem dX1_lessenOne_1 : decode cX1_lessenOne 1 = .ok (.iload_n 2, 1) := by decide +kernel
theorem dX1_lessenOne_2 : decode cX1_lessenOne 2 = .ok (.iload_n 3, 1) := by decide +kernel
theorem dX1_lessenOne_3 : decode cX1_lessenOne 3 = .ok (.iadd, 1) := by decide +kernel
theorem dX1_lessenOne_4 : decode cX1_lessenOne 4 = .ok (.iaload, 1) := by decide +kernel
theorem dX1_lessenOne_5 : decode cX1_lessenOne 5 = .ok (.istore 4, 2) := by decide +kernel
theorem dX1_lessenOne_7 : decode cX1_lessenOne 7 = .ok (.iconst 0, 1) := by decide +kernel
theorem dX1_lessenOne_8 : decode cX1_lessenOne 8 = .ok (.istore 5, 2) := by decide +kernel
theorem dX1_lessenOne_10 : decode cX1_lessenOne 10 = .ok (.iload 5, 2) := by decide +kernel
theorem dX1_lessenOne_12 : decode cX1_lessenOne 12 = .ok (.bipush 8, 2) := by decide +kernel
theorem dX1_lessenOne_14 : decode cX1_lessenOne 14 = .ok (.if_icmp .ge 44, 3) := by decide +kernel
theorem dX1_lessenOne_17 : decode cX1_lessenOne 17 = .ok (.aload_n 0, 1) := by decide +kernel
theorem dX1_lessenOne_18 : decode cX1_lessenOne 18 = .ok (.getfield 15, 3) := by decide +kernel
theorem dX1_lessenOne_21 : decode cX1_lessenOne 21 = .ok (.iload_n 3, 1) := by decide +kernel
theorem dX1_lessenOne_22 : decode cX1_lessenOne 22 = .ok (.iaload, 1) := by decide +kernel
theorem dX1_lessenOne_23 : decode cX1_lessenOne 23 = .ok (.iload 5, 2) := by decide +kernel
theorem dX1_lessenOne_25 : decode cX1_lessenOne 25 = .ok (.invokestatic 60, 3) := by decide +kernel
theorem dX1_lessenOne_28 : decode cX1_lessenOne 28 = .ok (.ifCond .eq 24, 3) := by decide +kernel
theorem dX1_lessenOne_31 : decode cX1_lessenOne 31 = .ok (.iload 4, 2) := by decide +kernel
theorem dX1_lessenOne_33 : decode cX1_lessenOne 33 = .ok (.aload_n 0, 1) := by decide +kernel
theorem dX1_lessenOne_34 : decode cX1_lessenOne 34 = .ok (.iload_n 3, 1) := by decide +kernel
theorem dX1_lessenOne_35 : decode cX1_lessenOne 35 = .ok (.iload 5, 2) := by decide +kernel
theorem dX1_lessenOne_37 : decode cX1_lessenOne 37 = .ok (.invokevirtual 68, 3) := by decide +kernel
theorem dX1_lessenOne_40 : decode cX1_lessenOne 40 = .ok (.aload_n 1, 1) := by decide +kernel
theorem dX1_lessenOne_41 : decode cX1_lessenOne 41 = .ok (.iload_n 2, 1) := by decide +kernel
theorem dX1_lessenOne_42 : decode cX1_lessenOne 42 = .ok (.iload 5, 2) := by decide +kernel
theorem dX1_lessenOne_44 : decode cX1_lessenOne 44 = .ok (.iadd, 1) := by decide +kernel
theorem dX1_lessenOne_45 : decode cX1_lessenOne 45 = .ok (.iaload, 1) := by decide +kernel
theorem dX1_lessenOne_46 : decode cX1_lessenOne 46 = .ok (.iadd, 1) := by decide +kernel
theorem dX1_lessenOne_47 : decode cX1_lessenOne 47 = .ok (.invokestatic 54, 3) := by decide +kernel
theorem dX1_lessenOne_50 : decode cX1_lessenOne 50 = .ok (.istore 4, 2) := by decide +kernel
theorem dX1_lessenOne_52 : decode cX1_lessenOne 52 = .ok (.iinc 5 1, 3) := by decide +kernel
theorem dX1_lessenOne_55 : decode cX1_lessenOne 55 = .ok (.goto (-45), 3) := by decide +kernel
theorem dX1_lessenOne_58 : decode cX1_lessenOne 58 = .ok (.iload 4, 2) := by decide +kernel
theorem dX1_lessenOne_60 : decode cX1_lessenOne 60 = .ok (.aload_n 1, 1) := by decide +kernel
theorem dX1_lessenOne_61 : decode cX1_lessenOne 61 = .ok (.iload_n 2, 1) := by decide +kernel
theorem dX1_lessenOne_62 : decode cX1_lessenOne 62 = .ok (.iload_n 3, 1) := by decide +kernel
theorem dX1_lessenOne_63 : decode cX1_lessenOne 63 = .ok (.iadd, 1) := by decide +kernel
theorem dX1_lessenOne_64 : decode cX1_lessenOne 64 = .ok (.iaload, 1) := by decide +kernel
theorem dX1_lessenOne_65 : decode cX1_lessenOne 65 = .ok (.if_icmp .ge 7, 3) := by decide +kernel
theorem dX1_lessenOne_68 : decode cX1_lessenOne 68 = .ok (.iconst 1, 1) := by decide +kernel
theorem dX1_lessenOne_69 : decode cX1_lessenOne 69 = .ok (.goto 4, 3) := by decide +kernel
theorem dX1_lessenOne_72 : decode cX1_lessenOne 72 = .ok (.iconst 0, 1) := by decide +kernel
theorem dX1_lessenOne_73 : decode cX1_lessenOne 73 = .ok (.istore 5, 2) := by decide +kernel
theorem dX1_lessenOne_75 : decode cX1_lessenOne 75 = .ok (.aload_n 1, 1) := by decide +kernel
theorem dX1_lessenOne_76 : decode cX1_lessenOne 76 = .ok (.iload_n 2, 1) := by decide +kernel
theorem dX1_lessenOne_77 : decode cX1_lessenOne 77 = .ok (.iload_n 3, 1) := by decide +kernel
theorem dX1_lessenOne_78 : decode cX1_lessenOne 78 = .ok (.iadd, 1) := by decide +kernel
theorem dX1_lessenOne_79 : decode cX1_lessenOne 79 = .ok (.iload 4, 2) := by decide +kernel
theorem dX1_lessenOne_81 : decode cX1_lessenOne 81 = .ok (.iastore, 1) := by decide +kernel
theorem dX1_lessenOne_82 : decode cX1_lessenOne 82 = .ok (.iload 5, 2) := by decide +kernel
theorem dX1_lessenOne_84 : decode cX1_lessenOne 84 = .ok (.ireturn, 1) := by decide +kernel
theorem dX2_init_0 : decode cX2_init 0 = .ok (.aload_n 0, 1) := by decide +kernel
theorem dX2_init_1 : decode cX2_init 1 = .ok (.invokespecial 3, 3) := by decide +kernel
theorem dX2_init_4 : decode cX2_init 4 = .ok (.aload_n 0, 1) := by decide +kernel
theorem dX2_init_5 : decode cX2_init 5 = .ok (.iload_n 1, 1) := by decide +kernel
theorem dX2_init_6 : decode cX2_init 6 = .ok (.putfield 9, 3) := by decide +kernel
theorem dX2_init_9 : decode cX2_init 9 = .ok (.aload_n 0, 1) := by decide +kernel
theorem dX2_init_10 : decode cX2_init 10 = .ok (.iload_n 2, 1) := by decide +kernel
theorem dX2_init_11 : decode cX2_init 11 = .ok (.putfield 15, 3) := by decide +kernel
theorem dX2_init_14 : decode cX2_init 14 = .ok (.aload_n 0, 1) := by decide +kernel
theorem dX2_init_15 : decode cX2_init 15 = .ok (.iload_n 3, 1) := by decide +kernel
theorem dX2_init_16 : decode cX2_init 16 = .ok (.putfield 18, 3) := by decide +kernel
theorem dX2_init_19 : decode cX2_init 19 = .ok (.aload_n 0, 1) := by decide +kernel
theorem dX2_init_20 : decode cX2_init 20 = .ok (.iload 4, 2) := by decide +kernel
theorem dX2_init_22 : decode cX2_init 22 = .ok (.putfield 21, 3) := by decide +kernel
theorem dX2_init_25 : decode cX2_init 25 = .ok (.aload_n 0, 1) := by decide +kernel
theorem dX2_init_26 : decode cX2_init 26 = .ok (.iload 5, 2) := by decide +kernel
theorem dX2_init_28 : decode cX2_init 28 = .ok (.putfield 24, 3) := by decide +kernel
theorem dX2_init_31 : decode cX2_init 31 = .ok (.return_, 1) := by decide +kernel
theorem dX2_isOfKind_0 : decode cX2_isOfKind 0 = .ok (.iload_n 1, 1) := by decide +kernel
theorem dX2_isOfKind_1 : decode cX2_isOfKind 1 = .ok (.aload_n 0, 1) := by decide +kernel
theorem dX2_isOfKind_2 : decode cX2_isOfKind 2 = .ok (.getfield 9, 3) := by decide +kernel
theorem dX2_isOfKind_5 : decode cX2_isOfKind 5 = .ok (.if_icmp .eq 20, 3) := by decide +kernel
theorem dX2_isOfKind_8 : decode cX2_isOfKind 8 = .ok (.iload_n 1, 1) := by decide +kernel
theorem dX2_isOfKind_9 : decode cX2_isOfKind 9 = .ok (.ifCond .eq 16, 3) := by decide +kernel
theorem dX2_isOfKind_12 : decode cX2_isOfKind 12 = .ok (.iload_n 1, 1) := by decide +kernel
theorem dX2_isOfKind_13 : decode cX2_isOfKind 13 = .ok (.iconst 2, 1) := by decide +kernel
theorem dX2_isOfKind_14 : decode cX2_isOfKind 14 = .ok (.if_icmp .ne 15, 3) := by decide +kernel
theorem dX2_isOfKind_17 : decode cX2_isOfKind 17 = .ok (.aload_n 0, 1) := by decide +kernel
theorem dX2_isOfKind_18 : decode cX2_isOfKind 18 = .ok (.getfield 9, 3) := by decide +kernel
theorem dX2_isOfKind_21 : decode cX2_isOfKind 21 = .ok (.iconst 3, 1) := by decide +kernel
theorem dX2_isOfKind_22 : decode cX2_isOfKind 22 = .ok (.if_icmp .ne 7, 3) := by decide +kernel
theorem dX2_isOfKind_25 : decode cX2_isOfKind 25 = .ok (.iconst 1, 1) := by decide +kernel
theorem dX2_isOfKind_26 : decode cX2_isOfKind 26 = .ok (.goto 4, 3) := by decide +kernel
theorem dX2_isOfKind_29 : decode cX2_isOfKind 29 = .ok (.iconst 0, 1) := by decide +kernel
theorem dX2_isOfKind_30 : decode cX2_isOfKind 30 = .ok (.ireturn, 1) := by decide +kernel
theorem dX2_fits_0 : decode cX2_fits 0 = .ok (.aload_n 0, 1) := by decide +kernel
theorem dX2_fits_1 : decode cX2_fits 1 = .ok (.getfield 15, 3) := by decide +kernel
theorem dX2_fits_4 : decode cX2_fits 4 = .ok (.iload_n 1, 1) := by decide +kernel
theorem dX2_fits_5 : decode cX2_fits 5 = .ok (.if_icmp .ne 14, 3) := by decide +kernel
theorem dX2_fits_8 : decode cX2_fits 8 = .ok (.aload_n 0, 1) := by decide +kernel
theorem dX2_fits_9 : decode cX2_fits 9 = .ok (.getfield 24, 3) := by decide +kernel
theorem dX2_fits_12 : decode cX2_fits 12 = .ok (.iload_n 3, 1) := by decide +kernel
theorem dX2_fits_13 : decode cX2_fits 13 = .ok (.ishr, 1) := by decide +kernel
theorem dX2_fits_14 : decode cX2_fits 14 = .ok (.iconst 1, 1) := by decide +kernel
theorem dX2_fits_15 : decode cX2_fits 15 = .ok (.iand, 1) := by decide +kernel
theorem dX2_fits_16 : decode cX2_fits 16 = .ok (.ifCond .ne 5, 3) := by decide +kernel
theorem dX2_fits_19 : decode cX2_fits 19 = .ok (.iconst 0, 1) := by decide +kernel
theorem dX2_fits_20 : decode cX2_fits 20 = .ok (.ireturn, 1) := by decide +kernel
theorem dX2_fits_21 : decode cX2_fits 21 = .ok (.aload_n 0, 1) := by decide +kernel
theorem dX2_fits_22 : decode cX2_fits 22 = .ok (.getfield 9, 3) := by decide +kernel
theorem dX2_fits_25 : decode cX2_fits 25 = .ok (.iconst 2, 1) := by decide +kernel
theorem dX2_fits_26 : decode cX2_fits 26 = .ok (.if_icmp .eq 11, 3) := by decide +kernel
theorem dX2_fits_29 : decode cX2_fits 29 = .ok (.aload_n 0, 1) := by decide +kernel
theorem dX2_fits_30 : decode cX2_fits 30 = .ok (.getfield 9, 3) := by decide +kernel
theorem dX2_fits_33 : decode cX2_fits 33 = .ok (.iconst 3, 1) := by decide +kernel
theorem dX2_fits_34 : decode cX2_fits 34 = .ok (.if_icmp .ne 25, 3) := by decide +kernel
theorem dX2_fits_37 : decode cX2_fits 37 = .ok (.aload_n 0, 1) := by decide +kernel
theorem dX2_fits_38 : decode cX2_fits 38 = .ok (.getfield 21, 3) := by decide +kernel
theorem dX2_fits_41 : decode cX2_fits 41 = .ok (.ifCond .eq 12, 3) := by decide +kernel
theorem dX2_fits_44 : decode cX2_fits 44 = .ok (.aload_n 0, 1) := by decide +kernel
theorem dX2_fits_45 : decode cX2_fits 45 = .ok (.getfield 21, 3) := by decide +kernel
theorem dX2_fits_48 : decode cX2_fits 48 = .ok (.iload_n 2, 1) := by decide +kernel
theorem dX2_fits_49 : decode cX2_fits 49 = .ok (.iand, 1) := by decide +kernel
theorem dX2_fits_50 : decode cX2_fits 50 = .ok (.ifCond .eq 7, 3) := by decide +kernel
theorem dX2_fits_53 : decode cX2_fits 53 = .ok (.iconst 1, 1) := by decide +kernel
theorem dX2_fits_54 : decode cX2_fits 54 = .ok (.goto 4, 3) := by decide +kernel
theorem dX2_fits_57 : decode cX2_fits 57 = .ok (.iconst 0, 1) := by decide +kernel
theorem dX2_fits_58 : decode cX2_fits 58 = .ok (.ireturn, 1) := by decide +kernel
theorem dX2_fits_59 : decode cX2_fits 59 = .ok (.aload_n 0, 1) := by decide +kernel
theorem dX2_fits_60 : decode cX2_fits 60 = .ok (.getfield 21, 3) := by decide +kernel
theorem dX2_fits_63 : decode cX2_fits 63 = .ok (.iload_n 2, 1) := by decide +kernel
theorem dX2_fits_64 : decode cX2_fits 64 = .ok (.iconst (-1), 1) := by decide +kernel
theorem dX2_fits_65 : decode cX2_fits 65 = .ok (.ixor, 1) := by decide +kernel
theorem dX2_fits_66 : decode cX2_fits 66 = .ok (.iand, 1) := by decide +kernel
theorem dX2_fits_67 : decode cX2_fits 67 = .ok (.ifCond .ne 7, 3) := by decide +kernel
theorem dX2_fits_70 : decode cX2_fits 70 = .ok (.iconst 1, 1) := by decide +kernel
theorem dX2_fits_71 : decode cX2_fits 71 = .ok (.goto 4, 3) := by decide +kernel
theorem dX2_fits_74 : decode cX2_fits 74 = .ok (.iconst 0, 1) := by decide +kernel
theorem dX2_fits_75 : decode cX2_fits 75 = .ok (.ireturn, 1) := by decide +kernel
theorem dX3_init_0 : decode cX3_init 0 = .ok (.aload_n 0, 1) := by decide +kernel
theorem dX3_init_1 : decode cX3_init 1 = .ok (.invokespecial 3, 3) := by decide +kernel
theorem dX3_init_4 : decode cX3_init 4 = .ok (.aload_n 0, 1) := by decide +kernel
theorem dX3_init_5 : decode cX3_init 5 = .ok (.iconst 0, 1) := by decide +kernel
theorem dX3_init_6 : decode cX3_init 6 = .ok (.putfield 9, 3) := by decide +kernel
theorem dX3_init_9 : decode cX3_init 9 = .ok (.aload_n 0, 1) := by decide +kernel
theorem dX3_init_10 : decode cX3_init 10 = .ok (.aload_n 1, 1) := by decide +kernel
theorem dX3_init_11 : decode cX3_init 11 = .ok (.putfield 15, 3) := by decide +kernel
theorem dX3_init_14 : decode cX3_init 14 = .ok (.aload_n 0, 1) := by decide +kernel
theorem dX3_init_15 : decode cX3_init 15 = .ok (.iload_n 2, 1) := by decide +kernel
theorem dX3_init_16 : decode cX3_init 16 = .ok (.putfield 19, 3) := by decide +kernel
theorem dX3_init_19 : decode cX3_init 19 = .ok (.return_, 1) := by decide +kernel
theorem dX3_readEdition_0 : decode cX3_readEdition 0 = .ok (.new 22, 3) := by decide +kernel
theorem dX3_readEdition_3 : decode cX3_readEdition 3 = .ok (.dup, 1) := by decide +kernel
theorem dX3_readEdition_4 : decode cX3_readEdition 4 = .ok (.invokespecial 24, 3) := by decide +kernel
theorem dX3_readEdition_7 : decode cX3_readEdition 7 = .ok (.astore_n 1, 1) := by decide +kernel
theorem dX3_readEdition_8 : decode cX3_readEdition 8 = .ok (.iconst 0, 1) := by decide +kernel
theorem dX3_readEdition_9 : decode cX3_readEdition 9 = .ok (.istore_n 2, 1) := by decide +kernel
theorem dX3_readEdition_10 : decode cX3_readEdition 10 = .ok (.iload_n 2, 1) := by decide +kernel
theorem dX3_readEdition_11 : decode cX3_readEdition 11 = .ok (.bipush 12, 2) := by decide +kernel
theorem dX3_readEdition_13 : decode cX3_readEdition 13 = .ok (.if_icmp .ge 41, 3) := by decide +kernel
theorem dX3_readEdition_16 : decode cX3_readEdition 16 = .ok (.aload_n 0, 1) := by decide +kernel
theorem dX3_readEdition_17 : decode cX3_readEdition 17 = .ok (.invokevirtual 25, 3) := by decide +kernel
theorem dX3_readEdition_20 : decode cX3_readEdition 20 = .ok (.astore_n 3, 1) := by decide +kernel
theorem dX3_readEdition_21 : decode cX3_readEdition 21 = .ok (.aload_n 3, 1) := by decide +kernel
theorem dX3_readEdition_22 : decode cX3_readEdition 22 = .ok (.ifnonnull 5, 3) := by decide +kernel
theorem dX3_readEdition_25 : decode cX3_readEdition 25 = .ok (.aconst_null, 1) := by decide +kernel
theorem dX3_readEdition_26 : decode cX3_readEdition 26 = .ok (.areturn, 1) := by decide +kernel
theorem dX3_readEdition_27 : decode cX3_readEdition 27 = .ok (.aload_n 1, 1) := by decide +kernel
theorem dX3_readEdition_28 : decode cX3_readEdition 28 = .ok (.aload_n 3, 1) := by decide +kernel
theorem dX3_readEdition_29 : decode cX3_readEdition 29 = .ok (.invokevirtual 29, 3) := by decide +kernel
theorem dX3_readEdition_32 : decode cX3_readEdition 32 = .ok (.aload_n 0, 1) := by decide +kernel
theorem dX3_readEdition_33 : decode cX3_readEdition 33 = .ok (.getfield 9, 3) := by decide +kernel
theorem dX3_readEdition_36 : decode cX3_readEdition 36 = .ok (.aload_n 0, 1) := by decide +kernel
theorem dX3_readEdition_37 : decode cX3_readEdition 37 = .ok (.getfield 15, 3) := by decide +kernel
theorem dX3_readEdition_40 : decode cX3_readEdition 40 = .ok (.getfield 33, 3) := by decide +kernel
theorem dX3_readEdition_43 : decode cX3_readEdition 43 = .ok (.if_icmp .ne 5, 3) := by decide +kernel
theorem dX3_readEdition_46 : decode cX3_readEdition 46 = .ok (.aload_n 1, 1) := by decide +kernel
theorem dX3_readEdition_47 : decode cX3_readEdition 47 = .ok (.areturn, 1) := by decide +kernel
theorem dX3_readEdition_48 : decode cX3_readEdition 48 = .ok (.iinc 2 1, 3) := by decide +kernel
theorem dX3_readEdition_51 : decode cX3_readEdition 51 = .ok (.goto (-41), 3) := by decide +kernel
theorem dX3_readEdition_54 : decode cX3_readEdition 54 = .ok (.aconst_null, 1) := by decide +kernel
theorem dX3_readEdition_55 : decode cX3_readEdition 55 = .ok (.areturn, 1) := by decide +kernel
theorem dX3_readPiece_0 : decode cX3_readPiece 0 = .ok (.aload_n 0, 1) := by decide +kernel
theorem dX3_readPiece_1 : decode cX3_readPiece 1 = .ok (.bipush 48, 2) := by decide +kernel
theorem dX3_readPiece_3 : decode cX3_readPiece 3 = .ok (.aload_n 0, 1) := by decide +kernel
theorem dX3_readPiece_4 : decode cX3_readPiece 4 = .ok (.getfield 19, 3) := by decide +kernel
theorem dX3_readPiece_7 : decode cX3_readPiece 7 = .ok (.invokevirtual 38, 3) := by decide +kernel
theorem dX3_readPiece_10 : decode cX3_readPiece 10 = .ok (.istore_n 1, 1) := by decide +kernel
theorem dX3_readPiece_11 : decode cX3_readPiece 11 = .ok (.iload_n 1, 1) := by decide +kernel
theorem dX3_readPiece_12 : decode cX3_readPiece 12 = .ok (.ifCond .ge 5, 3) := by decide +kernel
theorem dX3_readPiece_15 : decode cX3_readPiece 15 = .ok (.aconst_null, 1) := by decide +kernel
theorem dX3_readPiece_16 : decode cX3_readPiece 16 = .ok (.areturn, 1) := by decide +kernel
theorem dX3_readPiece_17 : decode cX3_readPiece 17 = .ok (.aload_n 0, 1) := by decide +kernel
theorem dX3_readPiece_18 : decode cX3_readPiece 18 = .ok (.invokevirtual 42, 3) := by decide +kernel
theorem dX3_readPiece_21 : decode cX3_readPiece 21 = .ok (.istore_n 2, 1) := by decide +kernel
theorem dX3_readPiece_22 : decode cX3_readPiece 22 = .ok (.iload_n 2, 1) := by decide +kernel
theorem dX3_readPiece_23 : decode cX3_readPiece 23 = .ok (.ifCond .ge 5, 3) := by decide +kernel
theorem dX3_readPiece_26 : decode cX3_readPiece 26 = .ok (.aconst_null, 1) := by decide +kernel
theorem dX3_readPiece_27 : decode cX3_readPiece 27 = .ok (.areturn, 1) := by decide +kernel
theorem dX3_readPiece_28 : decode cX3_readPiece 28 = .ok (.aload_n 0, 1) := by decide +kernel
theorem dX3_readPiece_29 : decode cX3_readPiece 29 = .ok (.bipush 49, 2) := by decide +kernel
theorem dX3_readPiece_31 : decode cX3_readPiece 31 = .ok (.bipush 9, 2) := by decide +kernel
theorem dX3_readPiece_33 : decode cX3_readPiece 33 = .ok (.invokevirtual 38, 3) := by decide +kernel
theorem dX3_readPiece_36 : decode cX3_readPiece 36 = .ok (.iconst 1, 1) := by decide +kernel
theorem dX3_readPiece_37 : decode cX3_readPiece 37 = .ok (.iadd, 1) := by decide +kernel
theorem dX3_readPiece_38 : decode cX3_readPiece 38 = .ok (.istore_n 3, 1) := by decide +kernel
theorem dX3_readPiece_39 : decode cX3_readPiece 39 = .ok (.iload_n 3, 1) := by decide +kernel
theorem dX3_readPiece_40 : decode cX3_readPiece 40 = .ok (.iconst 1, 1) := by decide +kernel
theorem dX3_readPiece_41 : decode cX3_readPiece 41 = .ok (.if_icmp .ge 5, 3) := by decide +kernel
theorem dX3_readPiece_44 : decode cX3_readPiece 44 = .ok (.aconst_null, 1) := by decide +kernel
theorem dX3_readPiece_45 : decode cX3_readPiece 45 = .ok (.areturn, 1) := by decide +kernel
theorem dX3_readPiece_46 : decode cX3_readPiece 46 = .ok (.aload_n 0, 1) := by decide +kernel
theorem dX3_readPiece_47 : decode cX3_readPiece 47 = .ok (.bipush 97, 2) := by decide +kernel
theorem dX3_readPiece_49 : decode cX3_readPiece 49 = .ok (.bipush 12, 2) := by decide +kernel
theorem dX3_readPiece_51 : decode cX3_readPiece 51 = .ok (.invokevirtual 46, 3) := by decide +kernel
theorem dX3_readPiece_54 : decode cX3_readPiece 54 = .ok (.istore 4, 2) := by decide +kernel
theorem dX3_readPiece_56 : decode cX3_readPiece 56 = .ok (.bipush 127, 2) := by decide +kernel
theorem dX3_readPiece_58 : decode cX3_readPiece 58 = .ok (.istore 5, 2) := by decide +kernel
theorem dX3_readPiece_60 : decode cX3_readPiece 60 = .ok (.iload_n 2, 1) := by decide +kernel
theorem dX3_readPiece_61 : decode cX3_readPiece 61 = .ok (.iconst 1, 1) := by decide +kernel
theorem dX3_readPiece_62 : decode cX3_readPiece 62 = .ok (.if_icmp .ne 22, 3) := by decide +kernel
theorem dX3_readPiece_65 : decode cX3_readPiece 65 = .ok (.aload_n 0, 1) := by decide +kernel
theorem dX3_readPiece_66 : decode cX3_readPiece 66 = .ok (.bipush 64, 2) := by decide +kernel
theorem dX3_readPiece_68 : decode cX3_readPiece 68 = .ok (.invokevirtual 49, 3) := by decide +kernel
theorem dX3_readPiece_71 : decode cX3_readPiece 71 = .ok (.ifCond .eq 13, 3) := by decide +kernel
theorem dX3_readPiece_74 : decode cX3_readPiece 74 = .ok (.aload_n 0, 1) := by decide +kernel
theorem dX3_readPiece_75 : decode cX3_readPiece 75 = .ok (.bipush 48, 2) := by decide +kernel
theorem dX3_readPiece_77 : decode cX3_readPiece 77 = .ok (.bipush 7, 2) := by decide +kernel
theorem dX3_readPiece_79 : decode cX3_readPiece 79 = .ok (.invokevirtual 46, 3) := by decide +kernel
theorem dX3_readPiece_82 : decode cX3_readPiece 82 = .ok (.istore 5, 2) := by decide +kernel
theorem dX3_readPiece_84 : decode cX3_readPiece 84 = .ok (.iload 5, 2) := by decide +kernel
theorem dX3_readPiece_86 : decode cX3_readPiece 86 = .ok (.ifCond .eq 12, 3) := by decide +kernel
theorem dX3_readPiece_89 : decode cX3_readPiece 89 = .ok (.aload_n 0, 1) := by decide +kernel
theorem dX3_readPiece_90 : decode cX3_readPiece 90 = .ok (.bipush 59, 2) := by decide +kernel
theorem dX3_readPiece_92 : decode cX3_readPiece 92 = .ok (.invokevirtual 49, 3) := by decide +kernel
theorem dX3_readPiece_95 : decode cX3_readPiece 95 = .ok (.ifCond .ne 5, 3) := by decide +kernel
theorem dX3_readPiece_98 : decode cX3_readPiece 98 = .ok (.aconst_null, 1) := by decide +kernel
theorem dX3_readPiece_99 : decode cX3_readPiece 99 = .ok (.areturn, 1) := by decide +kernel
theorem dX3_readPiece_100 : decode cX3_readPiece 100 = .ok (.new 53, 3) := by decide +kernel
theorem dX3_readPiece_103 : decode cX3_readPiece 103 = .ok (.dup, 1) := by decide +kernel
theorem dX3_readPiece_104 : decode cX3_readPiece 104 = .ok (.iload_n 2, 1) := by decide +kernel
theorem dX3_readPiece_105 : decode cX3_readPiece 105 = .ok (.iload_n 1, 1) := by decide +kernel
theorem dX3_readPiece_106 : decode cX3_readPiece 106 = .ok (.iload_n 3, 1) := by decide +kernel
theorem dX3_readPiece_107 : decode cX3_readPiece 107 = .ok (.iload 4, 2) := by decide +kernel
theorem dX3_readPiece_109 : decode cX3_readPiece 109 = .ok (.iload 5, 2) := by decide +kernel
theorem dX3_readPiece_111 : decode cX3_readPiece 111 = .ok (.invokespecial 55, 3) := by decide +kernel
theorem dX3_readPiece_114 : decode cX3_readPiece 114 = .ok (.areturn, 1) := by decide +kernel
theorem dX3_takeSign_0 : decode cX3_takeSign 0 = .ok (.aload_n 0, 1) := by decide +kernel
theorem dX3_takeSign_1 : decode cX3_takeSign 1 = .ok (.iload_n 1, 1) := by decide +kernel
theorem dX3_takeSign_2 : decode cX3_takeSign 2 = .ok (.iconst 1, 1) := by decide +kernel
theorem dX3_takeSign_3 : decode cX3_takeSign 3 = .ok (.invokevirtual 38, 3) := by decide +kernel
theorem dX3_takeSign_6 : decode cX3_takeSign 6 = .ok (.ifCond .ne 7, 3) := by decide +kernel
theorem dX3_takeSign_9 : decode cX3_takeSign 9 = .ok (.iconst 1, 1) := by decide +kernel
theorem dX3_takeSign_10 : decode cX3_takeSign 10 = .ok (.goto 4, 3) := by decide +kernel
theorem dX3_takeSign_13 : decode cX3_takeSign 13 = .ok (.iconst 0, 1) := by decide +kernel
theorem dX3_takeSign_14 : decode cX3_takeSign 14 = .ok (.ireturn, 1) := by decide +kernel
theorem dX3_takeKind_0 : decode cX3_takeKind 0 = .ok (.aload_n 0, 1) := by decide +kernel
theorem dX3_takeKind_1 : decode cX3_takeKind 1 = .ok (.getfield 15, 3) := by decide +kernel
theorem dX3_takeKind_4 : decode cX3_takeKind 4 = .ok (.aload_n 0, 1) := by decide +kernel
theorem dX3_takeKind_5 : decode cX3_takeKind 5 = .ok (.getfield 9, 3) := by decide +kernel
theorem dX3_takeKind_8 : decode cX3_takeKind 8 = .ok (.invokevirtual 58, 3) := by decide +kernel
theorem dX3_takeKind_11 : decode cX3_takeKind 11 = .ok (.istore_n 1, 1) := by decide +kernel
theorem dX3_takeKind_12 : decode cX3_takeKind 12 = .ok (.iconst 0, 1) := by decide +kernel
theorem dX3_takeKind_13 : decode cX3_takeKind 13 = .ok (.istore_n 2, 1) := by decide +kernel
theorem dX3_takeKind_14 : decode cX3_takeKind 14 = .ok (.iload_n 2, 1) := by decide +kernel
theorem dX3_takeKind_15 : decode cX3_takeKind 15 = .ok (.ldc 62, 2) := by decide +kernel
theorem dX3_takeKind_17 : decode cX3_takeKind 17 = .ok (.invokevirtual 64, 3) := by decide +kernel
theorem dX3_takeKind_20 : decode cX3_takeKind 20 = .ok (.if_icmp .ge 31, 3) := by decide +kernel
theorem dX3_takeKind_23 : decode cX3_takeKind 23 = .ok (.ldc 62, 2) := by decide +kernel
theorem dX3_takeKind_25 : decode cX3_takeKind 25 = .ok (.iload_n 2, 1) := by decide +kernel
theorem dX3_takeKind_26 : decode cX3_takeKind 26 = .ok (.invokevirtual 68, 3) := by decide +kernel
theorem dX3_takeKind_29 : decode cX3_takeKind 29 = .ok (.iload_n 1, 1) := by decide +kernel
theorem dX3_takeKind_30 : decode cX3_takeKind 30 = .ok (.if_icmp .ne 15, 3) := by decide +kernel
theorem dX3_takeKind_33 : decode cX3_takeKind 33 = .ok (.aload_n 0, 1) := by decide +kernel
theorem dX3_takeKind_34 : decode cX3_takeKind 34 = .ok (.dup, 1) := by decide +kernel
theorem dX3_takeKind_35 : decode cX3_takeKind 35 = .ok (.getfield 9, 3) := by decide +kernel
theorem dX3_takeKind_38 : decode cX3_takeKind 38 = .ok (.iconst 1, 1) := by decide +kernel
theorem dX3_takeKind_39 : decode cX3_takeKind 39 = .ok (.iadd, 1) := by decide +kernel
theorem dX3_takeKind_40 : decode cX3_takeKind 40 = .ok (.putfield 9, 3) := by decide +kernel
theorem dX3_takeKind_43 : decode cX3_takeKind 43 = .ok (.iload_n 2, 1) := by decide +kernel
theorem dX3_takeKind_44 : decode cX3_takeKind 44 = .ok (.ireturn, 1) := by decide +kernel
theorem dX3_takeKind_45 : decode cX3_takeKind 45 = .ok (.iinc 2 1, 3) := by decide +kernel
theorem dX3_takeKind_48 : decode cX3_takeKind 48 = .ok (.goto (-34), 3) := by decide +kernel
theorem dX3_takeKind_51 : decode cX3_takeKind 51 = .ok (.iconst (-1), 1) := by decide +kernel
theorem dX3_takeKind_52 : decode cX3_takeKind 52 = .ok (.ireturn, 1) := by decide +kernel
theorem dX3_takeOneOf_0 : decode cX3_takeOneOf 0 = .ok (.aload_n 0, 1) := by decide +kernel
theorem dX3_takeOneOf_1 : decode cX3_takeOneOf 1 = .ok (.getfield 15, 3) := by decide +kernel
theorem dX3_takeOneOf_4 : decode cX3_takeOneOf 4 = .ok (.aload_n 0, 1) := by decide +kernel
theorem dX3_takeOneOf_5 : decode cX3_takeOneOf 5 = .ok (.getfield 9, 3) := by decide +kernel
theorem dX3_takeOneOf_8 : decode cX3_takeOneOf 8 = .ok (.invokevirtual 58, 3) := by decide +kernel
theorem dX3_takeOneOf_11 : decode cX3_takeOneOf 11 = .ok (.iload_n 1, 1) := by decide +kernel
theorem dX3_takeOneOf_12 : decode cX3_takeOneOf 12 = .ok (.isub, 1) := by decide +kernel
theorem dX3_takeOneOf_13 : decode cX3_takeOneOf 13 = .ok (.istore_n 3, 1) := by decide +kernel
theorem dX3_takeOneOf_14 : decode cX3_takeOneOf 14 = .ok (.iload_n 3, 1) := by decide +kernel
theorem dX3_takeOneOf_15 : decode cX3_takeOneOf 15 = .ok (.iconst 0, 1) := by decide +kernel
theorem dX3_takeOneOf_16 : decode cX3_takeOneOf 16 = .ok (.iload_n 2, 1) := by decide +kernel
theorem dX3_takeOneOf_17 : decode cX3_takeOneOf 17 = .ok (.iconst 1, 1) := by decide +kernel
theorem dX3_takeOneOf_18 : decode cX3_takeOneOf 18 = .ok (.isub, 1) := by decide +kernel
theorem dX3_takeOneOf_19 : decode cX3_takeOneOf 19 = .ok (.invokestatic 72, 3) := by decide +kernel
theorem dX3_takeOneOf_22 : decode cX3_takeOneOf 22 = .ok (.ifCond .ne 5, 3) := by decide +kernel
theorem dX3_takeOneOf_25 : decode cX3_takeOneOf 25 = .ok (.iconst (-1), 1) := by decide +kernel
theorem dX3_takeOneOf_26 : decode cX3_takeOneOf 26 = .ok (.ireturn, 1) := by decide +kernel
theorem dX3_takeOneOf_27 : decode cX3_takeOneOf 27 = .ok (.aload_n 0, 1) := by decide +kernel
theorem dX3_takeOneOf_28 : decode cX3_takeOneOf 28 = .ok (.dup, 1) := by decide +kernel
theorem dX3_takeOneOf_29 : decode cX3_takeOneOf 29 = .ok (.getfield 9, 3) := by decide +kernel
theorem dX3_takeOneOf_32 : decode cX3_takeOneOf 32 = .ok (.iconst 1, 1) := by decide +kernel
theorem dX3_takeOneOf_33 : decode cX3_takeOneOf 33 = .ok (.iadd, 1) := by decide +kernel
theorem dX3_takeOneOf_34 : decode cX3_takeOneOf 34 = .ok (.putfield 9, 3) := by decide +kernel
theorem dX3_takeOneOf_37 : decode cX3_takeOneOf 37 = .ok (.iload_n 3, 1) := by decide +kernel
theorem dX3_takeOneOf_38 : decode cX3_takeOneOf 38 = .ok (.ireturn, 1) := by decide +kernel
theorem dX3_takeRising_0 : decode cX3_takeRising 0 = .ok (.iconst 0, 1) := by decide +kernel
theorem dX3_takeRising_1 : decode cX3_takeRising 1 = .ok (.istore_n 3, 1) := by decide +kernel
theorem dX3_takeRising_2 : decode cX3_takeRising 2 = .ok (.iconst 0, 1) := by decide +kernel
theorem dX3_takeRising_3 : decode cX3_takeRising 3 = .ok (.istore 4, 2) := by decide +kernel
theorem dX3_takeRising_5 : decode cX3_takeRising 5 = .ok (.iconst 0, 1) := by decide +kernel
theorem dX3_takeRising_6 : decode cX3_takeRising 6 = .ok (.istore 5, 2) := by decide +kernel
theorem dX3_takeRising_8 : decode cX3_takeRising 8 = .ok (.iload 5, 2) := by decide +kernel
theorem dX3_takeRising_10 : decode cX3_takeRising 10 = .ok (.iload_n 2, 1) := by decide +kernel
theorem dX3_takeRising_11 : decode cX3_takeRising 11 = .ok (.if_icmp .ge 63, 3) := by decide +kernel
theorem dX3_takeRising_14 : decode cX3_takeRising 14 = .ok (.aload_n 0, 1) := by decide +kernel
theorem dX3_takeRising_15 : decode cX3_takeRising 15 = .ok (.getfield 15, 3) := by decide +kernel
theorem dX3_takeRising_18 : decode cX3_takeRising 18 = .ok (.aload_n 0, 1) := by decide +kernel
theorem dX3_takeRising_19 : decode cX3_takeRising 19 = .ok (.getfield 9, 3) := by decide +kernel
theorem dX3_takeRising_22 : decode cX3_takeRising 22 = .ok (.invokevirtual 58, 3) := by decide +kernel
theorem dX3_takeRising_25 : decode cX3_takeRising 25 = .ok (.iload_n 1, 1) := by decide +kernel
theorem dX3_takeRising_26 : decode cX3_takeRising 26 = .ok (.isub, 1) := by decide +kernel
theorem dX3_takeRising_27 : decode cX3_takeRising 27 = .ok (.istore 6, 2) := by decide +kernel
theorem dX3_takeRising_29 : decode cX3_takeRising 29 = .ok (.iload 6, 2) := by decide +kernel
theorem dX3_takeRising_31 : decode cX3_takeRising 31 = .ok (.iload 4, 2) := by decide +kernel
theorem dX3_takeRising_33 : decode cX3_takeRising 33 = .ok (.iload_n 2, 1) := by decide +kernel
theorem dX3_takeRising_34 : decode cX3_takeRising 34 = .ok (.iconst 1, 1) := by decide +kernel
theorem dX3_takeRising_35 : decode cX3_takeRising 35 = .ok (.isub, 1) := by decide +kernel
theorem dX3_takeRising_36 : decode cX3_takeRising 36 = .ok (.invokestatic 72, 3) := by decide +kernel
theorem dX3_takeRising_39 : decode cX3_takeRising 39 = .ok (.ifCond .ne 6, 3) := by decide +kernel
theorem dX3_takeRising_42 : decode cX3_takeRising 42 = .ok (.goto 32, 3) := by decide +kernel
theorem dX3_takeRising_45 : decode cX3_takeRising 45 = .ok (.iload_n 3, 1) := by decide +kernel
theorem dX3_takeRising_46 : decode cX3_takeRising 46 = .ok (.iconst 1, 1) := by decide +kernel
theorem dX3_takeRising_47 : decode cX3_takeRising 47 = .ok (.iload 6, 2) := by decide +kernel
theorem dX3_takeRising_49 : decode cX3_takeRising 49 = .ok (.ishl, 1) := by decide +kernel
theorem dX3_takeRising_50 : decode cX3_takeRising 50 = .ok (.ior, 1) := by decide +kernel
theorem dX3_takeRising_51 : decode cX3_takeRising 51 = .ok (.istore_n 3, 1) := by decide +kernel
theorem dX3_takeRising_52 : decode cX3_takeRising 52 = .ok (.iload 6, 2) := by decide +kernel
theorem dX3_takeRising_54 : decode cX3_takeRising 54 = .ok (.iconst 1, 1) := by decide +kernel
theorem dX3_takeRising_55 : decode cX3_takeRising 55 = .ok (.iadd, 1) := by decide +kernel
theorem dX3_takeRising_56 : decode cX3_takeRising 56 = .ok (.istore 4, 2) := by decide +kernel
theorem dX3_takeRising_58 : decode cX3_takeRising 58 = .ok (.aload_n 0, 1) := by decide +kernel
theorem dX3_takeRising_59 : decode cX3_takeRising 59 = .ok (.dup, 1) := by decide +kernel
theorem dX3_takeRising_60 : decode cX3_takeRising 60 = .ok (.getfield 9, 3) := by decide +kernel
theorem dX3_takeRising_63 : decode cX3_takeRising 63 = .ok (.iconst 1, 1) := by decide +kernel
theorem dX3_takeRising_64 : decode cX3_takeRising 64 = .ok (.iadd, 1) := by decide +kernel
theorem dX3_takeRising_65 : decode cX3_takeRising 65 = .ok (.putfield 9, 3) := by decide +kernel
theorem dX3_takeRising_68 : decode cX3_takeRising 68 = .ok (.iinc 5 1, 3) := by decide +kernel
theorem dX3_takeRising_71 : decode cX3_takeRising 71 = .ok (.goto (-63), 3) := by decide +kernel
theorem dX3_takeRising_74 : decode cX3_takeRising 74 = .ok (.iload_n 3, 1) := by decide +kernel
theorem dX3_takeRising_75 : decode cX3_takeRising 75 = .ok (.ireturn, 1) := by decide +kernel
theorem dX4_init_0 : decode cX4_init 0 = .ok (.aload_n 0, 1) := by decide +kernel
theorem dX4_init_1 : decode cX4_init 1 = .ok (.invokespecial 3, 3) := by decide +kernel
theorem dX4_init_4 : decode cX4_init 4 = .ok (.aload_n 0, 1) := by decide +kernel
theorem dX4_init_5 : decode cX4_init 5 = .ok (.new 9, 3) := by decide +kernel
theorem dX4_init_8 : decode cX4_init 8 = .ok (.dup, 1) := by decide +kernel
theorem dX4_init_9 : decode cX4_init 9 = .ok (.invokespecial 11, 3) := by decide +kernel
theorem dX4_init_12 : decode cX4_init 12 = .ok (.putfield 12, 3) := by decide +kernel
theorem dX4_init_15 : decode cX4_init 15 = .ok (.aload_n 0, 1) := by decide +kernel
theorem dX4_init_16 : decode cX4_init 16 = .ok (.bipush 8, 2) := by decide +kernel
theorem dX4_init_18 : decode cX4_init 18 = .ok (.newarray .int, 2) := by decide +kernel
theorem dX4_init_20 : decode cX4_init 20 = .ok (.putfield 18, 3) := by decide +kernel
theorem dX4_init_23 : decode cX4_init 23 = .ok (.aload_n 0, 1) := by decide +kernel
theorem dX4_init_24 : decode cX4_init 24 = .ok (.iconst 1, 1) := by decide +kernel
theorem dX4_init_25 : decode cX4_init 25 = .ok (.newarray .int, 2) := by decide +kernel
theorem dX4_init_27 : decode cX4_init 27 = .ok (.putfield 22, 3) := by decide +kernel
theorem dX4_init_30 : decode cX4_init 30 = .ok (.aload_n 0, 1) := by decide +kernel
theorem dX4_init_31 : decode cX4_init 31 = .ok (.bipush 8, 2) := by decide +kernel
theorem dX4_init_33 : decode cX4_init 33 = .ok (.newarray .int, 2) := by decide +kernel
theorem dX4_init_35 : decode cX4_init 35 = .ok (.putfield 25, 3) := by decide +kernel
theorem dX4_init_38 : decode cX4_init 38 = .ok (.aload_n 0, 1) := by decide +kernel
theorem dX4_init_39 : decode cX4_init 39 = .ok (.new 28, 3) := by decide +kernel
theorem dX4_init_42 : decode cX4_init 42 = .ok (.dup, 1) := by decide +kernel
theorem dX4_init_43 : decode cX4_init 43 = .ok (.invokespecial 30, 3) := by decide +kernel
theorem dX4_init_46 : decode cX4_init 46 = .ok (.putfield 31, 3) := by decide +kernel
theorem dX4_init_49 : decode cX4_init 49 = .ok (.aload_n 0, 1) := by decide +kernel
theorem dX4_init_50 : decode cX4_init 50 = .ok (.iconst 0, 1) := by decide +kernel
theorem dX4_init_51 : decode cX4_init 51 = .ok (.putfield 35, 3) := by decide +kernel
theorem dX4_init_54 : decode cX4_init 54 = .ok (.aload_n 0, 1) := by decide +kernel
theorem dX4_init_55 : decode cX4_init 55 = .ok (.iconst 0, 1) := by decide +kernel
theorem dX4_init_56 : decode cX4_init 56 = .ok (.putfield 39, 3) := by decide +kernel
theorem dX4_init_59 : decode cX4_init 59 = .ok (.aload_n 0, 1) := by decide +kernel
theorem dX4_init_60 : decode cX4_init 60 = .ok (.iconst 1, 1) := by decide +kernel
theorem dX4_init_61 : decode cX4_init 61 = .ok (.putfield 42, 3) := by decide +kernel
theorem dX4_init_64 : decode cX4_init 64 = .ok (.return_, 1) := by decide +kernel
theorem dX4_distance_0 : decode cX4_distance 0 = .ok (.aload_n 0, 1) := by decide +kernel
theorem dX4_distance_1 : decode cX4_distance 1 = .ok (.getfield 12, 3) := by decide +kernel
theorem dX4_distance_4 : decode cX4_distance 4 = .ok (.aload_n 1, 1) := by decide +kernel
theorem dX4_distance_5 : decode cX4_distance 5 = .ok (.iload 4, 2) := by decide +kernel
theorem dX4_distance_7 : decode cX4_distance 7 = .ok (.iload 5, 2) := by decide +kernel
theorem dX4_distance_9 : decode cX4_distance 9 = .ok (.invokevirtual 45, 3) := by decide +kernel
theorem dX4_distance_12 : decode cX4_distance 12 = .ok (.aload_n 0, 1) := by decide +kernel
theorem dX4_distance_13 : decode cX4_distance 13 = .ok (.getfield 18, 3) := by decide +kernel
theorem dX4_distance_16 : decode cX4_distance 16 = .ok (.ldc 49, 2) := by decide +kernel
theorem dX4_distance_18 : decode cX4_distance 18 = .ok (.invokestatic 50, 3) := by decide +kernel
theorem dX4_distance_21 : decode cX4_distance 21 = .ok (.aload_n 0, 1) := by decide +kernel
theorem dX4_distance_22 : decode cX4_distance 22 = .ok (.getfield 18, 3) := by decide +kernel
theorem dX4_distance_25 : decode cX4_distance 25 = .ok (.iload_n 3, 1) := by decide +kernel
theorem dX4_distance_26 : decode cX4_distance 26 = .ok (.iconst 0, 1) := by decide +kernel
theorem dX4_distance_27 : decode cX4_distance 27 = .ok (.iastore, 1) := by decide +kernel
theorem dX4_distance_28 : decode cX4_distance 28 = .ok (.aload_n 0, 1) := by decide +kernel
theorem dX4_distance_29 : decode cX4_distance 29 = .ok (.getfield 12, 3) := by decide +kernel
theorem dX4_distance_32 : decode cX4_distance 32 = .ok (.aload_n 0, 1) := by decide +kernel
theorem dX4_distance_33 : decode cX4_distance 33 = .ok (.getfield 18, 3) := by decide +kernel
theorem dX4_distance_36 : decode cX4_distance 36 = .ok (.iconst 0, 1) := by decide +kernel
theorem dX4_distance_37 : decode cX4_distance 37 = .ok (.iconst 1, 1) := by decide +kernel
theorem dX4_distance_38 : decode cX4_distance 38 = .ok (.iload_n 3, 1) := by decide +kernel
theorem dX4_distance_39 : decode cX4_distance 39 = .ok (.ishl, 1) := by decide +kernel
theorem dX4_distance_40 : decode cX4_distance 40 = .ok (.iconst (-1), 1) := by decide +kernel
theorem dX4_distance_41 : decode cX4_distance 41 = .ok (.ixor, 1) := by decide +kernel
theorem dX4_distance_42 : decode cX4_distance 42 = .ok (.invokevirtual 56, 3) := by decide +kernel
theorem dX4_distance_45 : decode cX4_distance 45 = .ok (.aload_n 0, 1) := by decide +kernel
theorem dX4_distance_46 : decode cX4_distance 46 = .ok (.getfield 18, 3) := by decide +kernel
theorem dX4_distance_49 : decode cX4_distance 49 = .ok (.iload_n 2, 1) := by decide +kernel
theorem dX4_distance_50 : decode cX4_distance 50 = .ok (.iaload, 1) := by decide +kernel
theorem dX4_distance_51 : decode cX4_distance 51 = .ok (.ireturn, 1) := by decide +kernel
theorem dX4_explore_0 : decode cX4_explore 0 = .ok (.aload_n 0, 1) := by decide +kernel
theorem dX4_explore_1 : decode cX4_explore 1 = .ok (.getfield 12, 3) := by decide +kernel
theorem dX4_explore_4 : decode cX4_explore 4 = .ok (.aload_n 1, 1) := by decide +kernel
theorem dX4_explore_5 : decode cX4_explore 5 = .ok (.iload 5, 2) := by decide +kernel
theorem dX4_explore_7 : decode cX4_explore 7 = .ok (.iload 6, 2) := by decide +kernel
theorem dX4_explore_9 : decode cX4_explore 9 = .ok (.invokevirtual 45, 3) := by decide +kernel
theorem dX4_explore_12 : decode cX4_explore 12 = .ok (.aload_n 0, 1) := by decide +kernel
theorem dX4_explore_13 : decode cX4_explore 13 = .ok (.aload_n 2, 1) := by decide +kernel
theorem dX4_explore_14 : decode cX4_explore 14 = .ok (.putfield 31, 3) := by decide +kernel
theorem dX4_explore_17 : decode cX4_explore 17 = .ok (.aload_n 0, 1) := by decide +kernel
theorem dX4_explore_18 : decode cX4_explore 18 = .ok (.iload 5, 2) := by decide +kernel
theorem dX4_explore_20 : decode cX4_explore 20 = .ok (.putfield 35, 3) := by decide +kernel
theorem dX4_explore_23 : decode cX4_explore 23 = .ok (.aload_n 0, 1) := by decide +kernel
theorem dX4_explore_24 : decode cX4_explore 24 = .ok (.iload 4, 2) := by decide +kernel
theorem dX4_explore_26 : decode cX4_explore 26 = .ok (.putfield 39, 3) := by decide +kernel
theorem dX4_explore_29 : decode cX4_explore 29 = .ok (.aload_n 0, 1) := by decide +kernel
theorem dX4_explore_30 : decode cX4_explore 30 = .ok (.iconst 1, 1) := by decide +kernel
theorem dX4_explore_31 : decode cX4_explore 31 = .ok (.aload_n 2, 1) := by decide +kernel
theorem dX4_explore_32 : decode cX4_explore 32 = .ok (.getfield 60, 3) := by decide +kernel
theorem dX4_explore_35 : decode cX4_explore 35 = .ok (.ishl, 1) := by decide +kernel
theorem dX4_explore_36 : decode cX4_explore 36 = .ok (.putfield 42, 3) := by decide +kernel
theorem dX4_explore_39 : decode cX4_explore 39 = .ok (.aload_n 0, 1) := by decide +kernel
theorem dX4_explore_40 : decode cX4_explore 40 = .ok (.invokevirtual 63, 3) := by decide +kernel
theorem dX4_explore_43 : decode cX4_explore 43 = .ok (.aload_n 0, 1) := by decide +kernel
theorem dX4_explore_44 : decode cX4_explore 44 = .ok (.getfield 22, 3) := by decide +kernel
theorem dX4_explore_47 : decode cX4_explore 47 = .ok (.iload 4, 2) := by decide +kernel
theorem dX4_explore_49 : decode cX4_explore 49 = .ok (.iconst 1, 1) := by decide +kernel
theorem dX4_explore_50 : decode cX4_explore 50 = .ok (.iload_n 3, 1) := by decide +kernel
theorem dX4_explore_51 : decode cX4_explore 51 = .ok (.ishl, 1) := by decide +kernel
theorem dX4_explore_52 : decode cX4_explore 52 = .ok (.iastore, 1) := by decide +kernel
theorem dX4_explore_53 : decode cX4_explore 53 = .ok (.aload_n 0, 1) := by decide +kernel
theorem dX4_explore_54 : decode cX4_explore 54 = .ok (.getfield 39, 3) := by decide +kernel
theorem dX4_explore_57 : decode cX4_explore 57 = .ok (.istore 7, 2) := by decide +kernel
theorem dX4_explore_59 : decode cX4_explore 59 = .ok (.iload 7, 2) := by decide +kernel
theorem dX4_explore_61 : decode cX4_explore 61 = .ok (.aload_n 0, 1) := by decide +kernel
theorem dX4_explore_62 : decode cX4_explore 62 = .ok (.getfield 42, 3) := by decide +kernel
theorem dX4_explore_65 : decode cX4_explore 65 = .ok (.if_icmp .ge 15, 3) := by decide +kernel
theorem dX4_explore_68 : decode cX4_explore 68 = .ok (.aload_n 0, 1) := by decide +kernel
theorem dX4_explore_69 : decode cX4_explore 69 = .ok (.iload 7, 2) := by decide +kernel
theorem dX4_explore_71 : decode cX4_explore 71 = .ok (.invokevirtual 66, 3) := by decide +kernel
theorem dX4_explore_74 : decode cX4_explore 74 = .ok (.iinc 7 1, 3) := by decide +kernel
theorem dX4_explore_77 : decode cX4_explore 77 = .ok (.goto (-18), 3) := by decide +kernel
theorem dX4_explore_80 : decode cX4_explore 80 = .ok (.aload_n 0, 1) := by decide +kernel
theorem dX4_explore_81 : decode cX4_explore 81 = .ok (.getfield 42, 3) := by decide +kernel
theorem dX4_explore_84 : decode cX4_explore 84 = .ok (.iconst 1, 1) := by decide +kernel
theorem dX4_explore_85 : decode cX4_explore 85 = .ok (.isub, 1) := by decide +kernel
theorem dX4_explore_86 : decode cX4_explore 86 = .ok (.istore 7, 2) := by decide +kernel
theorem dX4_explore_88 : decode cX4_explore 88 = .ok (.iload 7, 2) := by decide +kernel
theorem dX4_explore_90 : decode cX4_explore 90 = .ok (.aload_n 0, 1) := by decide +kernel
theorem dX4_explore_91 : decode cX4_explore 91 = .ok (.getfield 39, 3) := by decide +kernel
theorem dX4_explore_94 : decode cX4_explore 94 = .ok (.if_icmp .lt 15, 3) := by decide +kernel
theorem dX4_explore_97 : decode cX4_explore 97 = .ok (.aload_n 0, 1) := by decide +kernel
theorem dX4_explore_98 : decode cX4_explore 98 = .ok (.iload 7, 2) := by decide +kernel
theorem dX4_explore_100 : decode cX4_explore 100 = .ok (.invokevirtual 70, 3) := by decide +kernel
theorem dX4_explore_103 : decode cX4_explore 103 = .ok (.iinc 7 (-1), 3) := by decide +kernel
theorem dX4_explore_106 : decode cX4_explore 106 = .ok (.goto (-18), 3) := by decide +kernel
theorem dX4_explore_109 : decode cX4_explore 109 = .ok (.return_, 1) := by decide +kernel
theorem dX4_clearReached_0 : decode cX4_clearReached 0 = .ok (.aload_n 0, 1) := by decide +kernel
theorem dX4_clearReached_1 : decode cX4_clearReached 1 = .ok (.getfield 22, 3) := by decide +kernel
theorem dX4_clearReached_4 : decode cX4_clearReached 4 = .ok (.arraylength, 1) := by decide +kernel
theorem dX4_clearReached_5 : decode cX4_clearReached 5 = .ok (.aload_n 0, 1) := by decide +kernel
theorem dX4_clearReached_6 : decode cX4_clearReached 6 = .ok (.getfield 42, 3) := by decide +kernel
theorem dX4_clearReached_9 : decode cX4_clearReached 9 = .ok (.if_icmp .ge 26, 3) := by decide +kernel
theorem dX4_clearReached_12 : decode cX4_clearReached 12 = .ok (.aload_n 0, 1) := by decide +kernel
theorem dX4_clearReached_13 : decode cX4_clearReached 13 = .ok (.aload_n 0, 1) := by decide +kernel
theorem dX4_clearReached_14 : decode cX4_clearReached 14 = .ok (.getfield 42, 3) := by decide +kernel
theorem dX4_clearReached_17 : decode cX4_clearReached 17 = .ok (.newarray .int, 2) := by decide +kernel
theorem dX4_clearReached_19 : decode cX4_clearReached 19 = .ok (.putfield 22, 3) := by decide +kernel
theorem dX4_clearReached_22 : decode cX4_clearReached 22 = .ok (.aload_n 0, 1) := by decide +kernel
theorem dX4_clearReached_23 : decode cX4_clearReached 23 = .ok (.aload_n 0, 1) := by decide +kernel
theorem dX4_clearReached_24 : decode cX4_clearReached 24 = .ok (.getfield 42, 3) := by decide +kernel
theorem dX4_clearReached_27 : decode cX4_clearReached 27 = .ok (.bipush 8, 2) := by decide +kernel
theorem dX4_clearReached_29 : decode cX4_clearReached 29 = .ok (.imul, 1) := by decide +kernel
theorem dX4_clearReached_30 : decode cX4_clearReached 30 = .ok (.newarray .int, 2) := by decide +kernel
theorem dX4_clearReached_32 : decode cX4_clearReached 32 = .ok (.putfield 25, 3) := by decide +kernel
theorem dX4_clearReached_35 : decode cX4_clearReached 35 = .ok (.iconst 0, 1) := by decide +kernel
theorem dX4_clearReached_36 : decode cX4_clearReached 36 = .ok (.istore_n 1, 1) := by decide +kernel
theorem dX4_clearReached_37 : decode cX4_clearReached 37 = .ok (.iload_n 1, 1) := by decide +kernel
theorem dX4_clearReached_38 : decode cX4_clearReached 38 = .ok (.aload_n 0, 1) := by decide +kernel
theorem dX4_clearReached_39 : decode cX4_clearReached 39 = .ok (.getfield 42, 3) := by decide +kernel
theorem dX4_clearReached_42 : decode cX4_clearReached 42 = .ok (.if_icmp .ge 16, 3) := by decide +kernel
theorem dX4_clearReached_45 : decode cX4_clearReached 45 = .ok (.aload_n 0, 1) := by decide +kernel
theorem dX4_clearReached_46 : decode cX4_clearReached 46 = .ok (.getfield 22, 3) := by decide +kernel
theorem dX4_clearReached_49 : decode cX4_clearReached 49 = .ok (.iload_n 1, 1) := by decide +kernel
theorem dX4_clearReached_50 : decode cX4_clearReached 50 = .ok (.iconst 0, 1) := by decide +kernel
theorem dX4_clearReached_51 : decode cX4_clearReached 51 = .ok (.iastore, 1) := by decide +kernel
theorem dX4_clearReached_52 : decode cX4_clearReached 52 = .ok (.iinc 1 1, 3) := by decide +kernel
theorem dX4_clearReached_55 : decode cX4_clearReached 55 = .ok (.goto (-18), 3) := by decide +kernel
theorem dX4_clearReached_58 : decode cX4_clearReached 58 = .ok (.return_, 1) := by decide +kernel
theorem dX4_reachFrom_0 : decode cX4_reachFrom 0 = .ok (.aload_n 0, 1) := by decide +kernel
theorem dX4_reachFrom_1 : decode cX4_reachFrom 1 = .ok (.getfield 31, 3) := by decide +kernel
theorem dX4_reachFrom_4 : decode cX4_reachFrom 4 = .ok (.iload_n 1, 1) := by decide +kernel
theorem dX4_reachFrom_5 : decode cX4_reachFrom 5 = .ok (.invokevirtual 73, 3) := by decide +kernel
theorem dX4_reachFrom_8 : decode cX4_reachFrom 8 = .ok (.ifCond .eq 4, 3) := by decide +kernel
theorem dX4_reachFrom_11 : decode cX4_reachFrom 11 = .ok (.return_, 1) := by decide +kernel
theorem dX4_reachFrom_12 : decode cX4_reachFrom 12 = .ok (.iconst 0, 1) := by decide +kernel
theorem dX4_reachFrom_13 : decode cX4_reachFrom 13 = .ok (.istore_n 2, 1) := by decide +kernel
theorem dX4_reachFrom_14 : decode cX4_reachFrom 14 = .ok (.iconst 0, 1) := by decide +kernel
theorem dX4_reachFrom_15 : decode cX4_reachFrom 15 = .ok (.istore_n 3, 1) := by decide +kernel
theorem dX4_reachFrom_16 : decode cX4_reachFrom 16 = .ok (.iload_n 3, 1) := by decide +kernel
theorem dX4_reachFrom_17 : decode cX4_reachFrom 17 = .ok (.bipush 8, 2) := by decide +kernel
theorem dX4_reachFrom_19 : decode cX4_reachFrom 19 = .ok (.if_icmp .ge 67, 3) := by decide +kernel
theorem dX4_reachFrom_22 : decode cX4_reachFrom 22 = .ok (.iload_n 2, 1) := by decide +kernel
theorem dX4_reachFrom_23 : decode cX4_reachFrom 23 = .ok (.aload_n 0, 1) := by decide +kernel
theorem dX4_reachFrom_24 : decode cX4_reachFrom 24 = .ok (.getfield 22, 3) := by decide +kernel
theorem dX4_reachFrom_27 : decode cX4_reachFrom 27 = .ok (.iload_n 1, 1) := by decide +kernel
theorem dX4_reachFrom_28 : decode cX4_reachFrom 28 = .ok (.iaload, 1) := by decide +kernel
theorem dX4_reachFrom_29 : decode cX4_reachFrom 29 = .ok (.if_icmp .eq 57, 3) := by decide +kernel
theorem dX4_reachFrom_32 : decode cX4_reachFrom 32 = .ok (.iconst 0, 1) := by decide +kernel
theorem dX4_reachFrom_33 : decode cX4_reachFrom 33 = .ok (.istore 4, 2) := by decide +kernel
theorem dX4_reachFrom_35 : decode cX4_reachFrom 35 = .ok (.iload 4, 2) := by decide +kernel
theorem dX4_reachFrom_37 : decode cX4_reachFrom 37 = .ok (.bipush 8, 2) := by decide +kernel
theorem dX4_reachFrom_39 : decode cX4_reachFrom 39 = .ok (.if_icmp .ge 41, 3) := by decide +kernel
theorem dX4_reachFrom_42 : decode cX4_reachFrom 42 = .ok (.aload_n 0, 1) := by decide +kernel
theorem dX4_reachFrom_43 : decode cX4_reachFrom 43 = .ok (.getfield 22, 3) := by decide +kernel
theorem dX4_reachFrom_46 : decode cX4_reachFrom 46 = .ok (.iload_n 1, 1) := by decide +kernel
theorem dX4_reachFrom_47 : decode cX4_reachFrom 47 = .ok (.iaload, 1) := by decide +kernel
theorem dX4_reachFrom_48 : decode cX4_reachFrom 48 = .ok (.iload_n 2, 1) := by decide +kernel
theorem dX4_reachFrom_49 : decode cX4_reachFrom 49 = .ok (.iconst (-1), 1) := by decide +kernel
theorem dX4_reachFrom_50 : decode cX4_reachFrom 50 = .ok (.ixor, 1) := by decide +kernel
theorem dX4_reachFrom_51 : decode cX4_reachFrom 51 = .ok (.iand, 1) := by decide +kernel
theorem dX4_reachFrom_52 : decode cX4_reachFrom 52 = .ok (.iload 4, 2) := by decide +kernel
theorem dX4_reachFrom_54 : decode cX4_reachFrom 54 = .ok (.invokestatic 77, 3) := by decide +kernel
theorem dX4_reachFrom_57 : decode cX4_reachFrom 57 = .ok (.ifCond .eq 17, 3) := by decide +kernel
theorem dX4_reachFrom_60 : decode cX4_reachFrom 60 = .ok (.iload_n 2, 1) := by decide +kernel
theorem dX4_reachFrom_61 : decode cX4_reachFrom 61 = .ok (.iconst 1, 1) := by decide +kernel
theorem dX4_reachFrom_62 : decode cX4_reachFrom 62 = .ok (.iload 4, 2) := by decide +kernel
theorem dX4_reachFrom_64 : decode cX4_reachFrom 64 = .ok (.ishl, 1) := by decide +kernel
theorem dX4_reachFrom_65 : decode cX4_reachFrom 65 = .ok (.ior, 1) := by decide +kernel
theorem dX4_reachFrom_66 : decode cX4_reachFrom 66 = .ok (.istore_n 2, 1) := by decide +kernel
theorem dX4_reachFrom_67 : decode cX4_reachFrom 67 = .ok (.aload_n 0, 1) := by decide +kernel
theorem dX4_reachFrom_68 : decode cX4_reachFrom 68 = .ok (.iload_n 1, 1) := by decide +kernel
theorem dX4_reachFrom_69 : decode cX4_reachFrom 69 = .ok (.iload 4, 2) := by decide +kernel
theorem dX4_reachFrom_71 : decode cX4_reachFrom 71 = .ok (.invokevirtual 81, 3) := by decide +kernel
theorem dX4_reachFrom_74 : decode cX4_reachFrom 74 = .ok (.iinc 4 1, 3) := by decide +kernel
theorem dX4_reachFrom_77 : decode cX4_reachFrom 77 = .ok (.goto (-42), 3) := by decide +kernel
theorem dX4_reachFrom_80 : decode cX4_reachFrom 80 = .ok (.iinc 3 1, 3) := by decide +kernel
theorem dX4_reachFrom_83 : decode cX4_reachFrom 83 = .ok (.goto (-67), 3) := by decide +kernel
theorem dX4_reachFrom_86 : decode cX4_reachFrom 86 = .ok (.return_, 1) := by decide +kernel
theorem dX4_reachNext_0 : decode cX4_reachNext 0 = .ok (.aload_n 0, 1) := by decide +kernel
theorem dX4_reachNext_1 : decode cX4_reachNext 1 = .ok (.getfield 31, 3) := by decide +kernel
theorem dX4_reachNext_4 : decode cX4_reachNext 4 = .ok (.iconst 0, 1) := by decide +kernel
theorem dX4_reachNext_5 : decode cX4_reachNext 5 = .ok (.iload_n 2, 1) := by decide +kernel
theorem dX4_reachNext_6 : decode cX4_reachNext 6 = .ok (.iload_n 1, 1) := by decide +kernel
theorem dX4_reachNext_7 : decode cX4_reachNext 7 = .ok (.aload_n 0, 1) := by decide +kernel
theorem dX4_reachNext_8 : decode cX4_reachNext 8 = .ok (.getfield 35, 3) := by decide +kernel
theorem dX4_reachNext_11 : decode cX4_reachNext 11 = .ok (.invokevirtual 85, 3) := by decide +kernel
theorem dX4_reachNext_14 : decode cX4_reachNext 14 = .ok (.istore_n 3, 1) := by decide +kernel
theorem dX4_reachNext_15 : decode cX4_reachNext 15 = .ok (.iload_n 3, 1) := by decide +kernel
theorem dX4_reachNext_16 : decode cX4_reachNext 16 = .ok (.ifCond .lt 22, 3) := by decide +kernel
theorem dX4_reachNext_19 : decode cX4_reachNext 19 = .ok (.aload_n 0, 1) := by decide +kernel
theorem dX4_reachNext_20 : decode cX4_reachNext 20 = .ok (.getfield 22, 3) := by decide +kernel
theorem dX4_reachNext_23 : decode cX4_reachNext 23 = .ok (.iload_n 1, 1) := by decide +kernel
theorem dX4_reachNext_24 : decode cX4_reachNext 24 = .ok (.iconst 1, 1) := by decide +kernel
theorem dX4_reachNext_25 : decode cX4_reachNext 25 = .ok (.iload_n 3, 1) := by decide +kernel
theorem dX4_reachNext_26 : decode cX4_reachNext 26 = .ok (.ishl, 1) := by decide +kernel
theorem dX4_reachNext_27 : decode cX4_reachNext 27 = .ok (.ior, 1) := by decide +kernel
theorem dX4_reachNext_28 : decode cX4_reachNext 28 = .ok (.dup2, 1) := by decide +kernel
theorem dX4_reachNext_29 : decode cX4_reachNext 29 = .ok (.iaload, 1) := by decide +kernel
theorem dX4_reachNext_30 : decode cX4_reachNext 30 = .ok (.iconst 1, 1) := by decide +kernel
theorem dX4_reachNext_31 : decode cX4_reachNext 31 = .ok (.iload_n 2, 1) := by decide +kernel
theorem dX4_reachNext_32 : decode cX4_reachNext 32 = .ok (.ishl, 1) := by decide +kernel
theorem dX4_reachNext_33 : decode cX4_reachNext 33 = .ok (.ior, 1) := by decide +kernel
theorem dX4_reachNext_34 : decode cX4_reachNext 34 = .ok (.iastore, 1) := by decide +kernel
theorem dX4_reachNext_35 : decode cX4_reachNext 35 = .ok (.goto 21, 3) := by decide +kernel
theorem dX4_reachNext_38 : decode cX4_reachNext 38 = .ok (.aload_n 0, 1) := by decide +kernel
theorem dX4_reachNext_39 : decode cX4_reachNext 39 = .ok (.getfield 22, 3) := by decide +kernel
theorem dX4_reachNext_42 : decode cX4_reachNext 42 = .ok (.iload_n 1, 1) := by decide +kernel
theorem dX4_reachNext_43 : decode cX4_reachNext 43 = .ok (.dup2, 1) := by decide +kernel
theorem dX4_reachNext_44 : decode cX4_reachNext 44 = .ok (.iaload, 1) := by decide +kernel
theorem dX4_reachNext_45 : decode cX4_reachNext 45 = .ok (.aload_n 0, 1) := by decide +kernel
theorem dX4_reachNext_46 : decode cX4_reachNext 46 = .ok (.getfield 12, 3) := by decide +kernel
theorem dX4_reachNext_49 : decode cX4_reachNext 49 = .ok (.getfield 89, 3) := by decide +kernel
theorem dX4_reachNext_52 : decode cX4_reachNext 52 = .ok (.iload_n 2, 1) := by decide +kernel
theorem dX4_reachNext_53 : decode cX4_reachNext 53 = .ok (.iaload, 1) := by decide +kernel
theorem dX4_reachNext_54 : decode cX4_reachNext 54 = .ok (.ior, 1) := by decide +kernel
theorem dX4_reachNext_55 : decode cX4_reachNext 55 = .ok (.iastore, 1) := by decide +kernel
theorem dX4_reachNext_56 : decode cX4_reachNext 56 = .ok (.return_, 1) := by decide +kernel
theorem dX4_timeSet_0 : decode cX4_timeSet 0 = .ok (.iconst 0, 1) := by decide +kernel
theorem dX4_timeSet_1 : decode cX4_timeSet 1 = .ok (.istore_n 2, 1) := by decide +kernel
theorem dX4_timeSet_2 : decode cX4_timeSet 2 = .ok (.iconst 0, 1) := by decide +kernel
theorem dX4_timeSet_3 : decode cX4_timeSet 3 = .ok (.istore_n 3, 1) := by decide +kernel
theorem dX4_timeSet_4 : decode cX4_timeSet 4 = .ok (.iload_n 3, 1) := by decide +kernel
theorem dX4_timeSet_5 : decode cX4_timeSet 5 = .ok (.bipush 8, 2) := by decide +kernel
theorem dX4_timeSet_7 : decode cX4_timeSet 7 = .ok (.if_icmp .ge 58, 3) := by decide +kernel
theorem dX4_timeSet_10 : decode cX4_timeSet 10 = .ok (.aload_n 0, 1) := by decide +kernel
theorem dX4_timeSet_11 : decode cX4_timeSet 11 = .ok (.getfield 22, 3) := by decide +kernel
theorem dX4_timeSet_14 : decode cX4_timeSet 14 = .ok (.iload_n 1, 1) := by decide +kernel
theorem dX4_timeSet_15 : decode cX4_timeSet 15 = .ok (.iaload, 1) := by decide +kernel
theorem dX4_timeSet_16 : decode cX4_timeSet 16 = .ok (.iload_n 3, 1) := by decide +kernel
theorem dX4_timeSet_17 : decode cX4_timeSet 17 = .ok (.invokestatic 77, 3) := by decide +kernel
theorem dX4_timeSet_20 : decode cX4_timeSet 20 = .ok (.ifCond .eq 39, 3) := by decide +kernel
theorem dX4_timeSet_23 : decode cX4_timeSet 23 = .ok (.aload_n 0, 1) := by decide +kernel
theorem dX4_timeSet_24 : decode cX4_timeSet 24 = .ok (.iload_n 1, 1) := by decide +kernel
theorem dX4_timeSet_25 : decode cX4_timeSet 25 = .ok (.iload_n 3, 1) := by decide +kernel
theorem dX4_timeSet_26 : decode cX4_timeSet 26 = .ok (.invokevirtual 92, 3) := by decide +kernel
theorem dX4_timeSet_29 : decode cX4_timeSet 29 = .ok (.istore 4, 2) := by decide +kernel
theorem dX4_timeSet_31 : decode cX4_timeSet 31 = .ok (.iload 4, 2) := by decide +kernel
theorem dX4_timeSet_33 : decode cX4_timeSet 33 = .ok (.ifCond .ge 13, 3) := by decide +kernel
theorem dX4_timeSet_36 : decode cX4_timeSet 36 = .ok (.iload_n 2, 1) := by decide +kernel
theorem dX4_timeSet_37 : decode cX4_timeSet 37 = .ok (.iconst 1, 1) := by decide +kernel
theorem dX4_timeSet_38 : decode cX4_timeSet 38 = .ok (.iload_n 3, 1) := by decide +kernel
theorem dX4_timeSet_39 : decode cX4_timeSet 39 = .ok (.ishl, 1) := by decide +kernel
theorem dX4_timeSet_40 : decode cX4_timeSet 40 = .ok (.ior, 1) := by decide +kernel
theorem dX4_timeSet_41 : decode cX4_timeSet 41 = .ok (.istore_n 2, 1) := by decide +kernel
theorem dX4_timeSet_42 : decode cX4_timeSet 42 = .ok (.ldc 49, 2) := by decide +kernel
theorem dX4_timeSet_44 : decode cX4_timeSet 44 = .ok (.istore 4, 2) := by decide +kernel
theorem dX4_timeSet_46 : decode cX4_timeSet 46 = .ok (.aload_n 0, 1) := by decide +kernel
theorem dX4_timeSet_47 : decode cX4_timeSet 47 = .ok (.getfield 25, 3) := by decide +kernel
theorem dX4_timeSet_50 : decode cX4_timeSet 50 = .ok (.iload_n 1, 1) := by decide +kernel
theorem dX4_timeSet_51 : decode cX4_timeSet 51 = .ok (.bipush 8, 2) := by decide +kernel
theorem dX4_timeSet_53 : decode cX4_timeSet 53 = .ok (.imul, 1) := by decide +kernel
theorem dX4_timeSet_54 : decode cX4_timeSet 54 = .ok (.iload_n 3, 1) := by decide +kernel
theorem dX4_timeSet_55 : decode cX4_timeSet 55 = .ok (.iadd, 1) := by decide +kernel
theorem dX4_timeSet_56 : decode cX4_timeSet 56 = .ok (.iload 4, 2) := by decide +kernel
theorem dX4_timeSet_58 : decode cX4_timeSet 58 = .ok (.iastore, 1) := by decide +kernel
theorem dX4_timeSet_59 : decode cX4_timeSet 59 = .ok (.iinc 3 1, 3) := by decide +kernel
theorem dX4_timeSet_62 : decode cX4_timeSet 62 = .ok (.goto (-58), 3) := by decide +kernel
theorem dX4_timeSet_65 : decode cX4_timeSet 65 = .ok (.aload_n 0, 1) := by decide +kernel
theorem dX4_timeSet_66 : decode cX4_timeSet 66 = .ok (.getfield 12, 3) := by decide +kernel
theorem dX4_timeSet_69 : decode cX4_timeSet 69 = .ok (.aload_n 0, 1) := by decide +kernel
theorem dX4_timeSet_70 : decode cX4_timeSet 70 = .ok (.getfield 25, 3) := by decide +kernel
theorem dX4_timeSet_73 : decode cX4_timeSet 73 = .ok (.iload_n 1, 1) := by decide +kernel
theorem dX4_timeSet_74 : decode cX4_timeSet 74 = .ok (.bipush 8, 2) := by decide +kernel
theorem dX4_timeSet_76 : decode cX4_timeSet 76 = .ok (.imul, 1) := by decide +kernel
theorem dX4_timeSet_77 : decode cX4_timeSet 77 = .ok (.iload_n 2, 1) := by decide +kernel
theorem dX4_timeSet_78 : decode cX4_timeSet 78 = .ok (.invokevirtual 56, 3) := by decide +kernel
theorem dX4_timeSet_81 : decode cX4_timeSet 81 = .ok (.return_, 1) := by decide +kernel
theorem dX4_timeToldHere_0 : decode cX4_timeToldHere 0 = .ok (.aload_n 0, 1) := by decide +kernel
theorem dX4_timeToldHere_1 : decode cX4_timeToldHere 1 = .ok (.getfield 31, 3) := by decide +kernel
theorem dX4_timeToldHere_4 : decode cX4_timeToldHere 4 = .ok (.iload_n 1, 1) := by decide +kernel
theorem dX4_timeToldHere_5 : decode cX4_timeToldHere 5 = .ok (.invokevirtual 73, 3) := by decide +kernel
theorem dX4_timeToldHere_8 : decode cX4_timeToldHere 8 = .ok (.ifCond .eq 5, 3) := by decide +kernel
theorem dX4_timeToldHere_11 : decode cX4_timeToldHere 11 = .ok (.iconst 0, 1) := by decide +kernel
theorem dX4_timeToldHere_12 : decode cX4_timeToldHere 12 = .ok (.ireturn, 1) := by decide +kernel
theorem dX4_timeToldHere_13 : decode cX4_timeToldHere 13 = .ok (.aload_n 0, 1) := by decide +kernel
theorem dX4_timeToldHere_14 : decode cX4_timeToldHere 14 = .ok (.getfield 31, 3) := by decide +kernel
theorem dX4_timeToldHere_17 : decode cX4_timeToldHere 17 = .ok (.iconst 0, 1) := by decide +kernel
theorem dX4_timeToldHere_18 : decode cX4_timeToldHere 18 = .ok (.iload_n 2, 1) := by decide +kernel
theorem dX4_timeToldHere_19 : decode cX4_timeToldHere 19 = .ok (.iload_n 1, 1) := by decide +kernel
theorem dX4_timeToldHere_20 : decode cX4_timeToldHere 20 = .ok (.aload_n 0, 1) := by decide +kernel
theorem dX4_timeToldHere_21 : decode cX4_timeToldHere 21 = .ok (.getfield 35, 3) := by decide +kernel
theorem dX4_timeToldHere_24 : decode cX4_timeToldHere 24 = .ok (.invokevirtual 85, 3) := by decide +kernel
theorem dX4_timeToldHere_27 : decode cX4_timeToldHere 27 = .ok (.istore_n 3, 1) := by decide +kernel
theorem dX4_timeToldHere_28 : decode cX4_timeToldHere 28 = .ok (.aload_n 0, 1) := by decide +kernel
theorem dX4_timeToldHere_29 : decode cX4_timeToldHere 29 = .ok (.getfield 31, 3) := by decide +kernel
theorem dX4_timeToldHere_32 : decode cX4_timeToldHere 32 = .ok (.iload_n 3, 1) := by decide +kernel
theorem dX4_timeToldHere_33 : decode cX4_timeToldHere 33 = .ok (.invokevirtual 96, 3) := by decide +kernel
theorem dX4_timeToldHere_36 : decode cX4_timeToldHere 36 = .ok (.astore 4, 2) := by decide +kernel
theorem dX4_timeToldHere_38 : decode cX4_timeToldHere 38 = .ok (.aload 4, 2) := by decide +kernel
theorem dX4_timeToldHere_40 : decode cX4_timeToldHere 40 = .ok (.ifnonnull 5, 3) := by decide +kernel
theorem dX4_timeToldHere_43 : decode cX4_timeToldHere 43 = .ok (.iconst (-1), 1) := by decide +kernel
theorem dX4_timeToldHere_44 : decode cX4_timeToldHere 44 = .ok (.ireturn, 1) := by decide +kernel
theorem dX4_timeToldHere_45 : decode cX4_timeToldHere 45 = .ok (.ldc 49, 2) := by decide +kernel
theorem dX4_timeToldHere_47 : decode cX4_timeToldHere 47 = .ok (.aload 4, 2) := by decide +kernel
theorem dX4_timeToldHere_49 : decode cX4_timeToldHere 49 = .ok (.getfield 100, 3) := by decide +kernel
theorem dX4_timeToldHere_52 : decode cX4_timeToldHere 52 = .ok (.aload_n 0, 1) := by decide +kernel
theorem dX4_timeToldHere_53 : decode cX4_timeToldHere 53 = .ok (.iload_n 2, 1) := by decide +kernel
theorem dX4_timeToldHere_54 : decode cX4_timeToldHere 54 = .ok (.iload_n 1, 1) := by decide +kernel
theorem dX4_timeToldHere_55 : decode cX4_timeToldHere 55 = .ok (.iconst 1, 1) := by decide +kernel
theorem dX4_timeToldHere_56 : decode cX4_timeToldHere 56 = .ok (.iload_n 3, 1) := by decide +kernel
theorem dX4_timeToldHere_57 : decode cX4_timeToldHere 57 = .ok (.ishl, 1) := by decide +kernel
theorem dX4_timeToldHere_58 : decode cX4_timeToldHere 58 = .ok (.ior, 1) := by decide +kernel
theorem dX4_timeToldHere_59 : decode cX4_timeToldHere 59 = .ok (.invokevirtual 105, 3) := by decide +kernel
theorem dX4_timeToldHere_62 : decode cX4_timeToldHere 62 = .ok (.iadd, 1) := by decide +kernel
theorem dX4_timeToldHere_63 : decode cX4_timeToldHere 63 = .ok (.invokestatic 108, 3) := by decide +kernel
theorem dX4_timeToldHere_66 : decode cX4_timeToldHere 66 = .ok (.ireturn, 1) := by decide +kernel
theorem dX4_timeFrom_0 : decode cX4_timeFrom 0 = .ok (.aload_n 0, 1) := by decide +kernel
theorem dX4_timeFrom_1 : decode cX4_timeFrom 1 = .ok (.getfield 25, 3) := by decide +kernel
theorem dX4_timeFrom_4 : decode cX4_timeFrom 4 = .ok (.iload_n 2, 1) := by decide +kernel
theorem dX4_timeFrom_5 : decode cX4_timeFrom 5 = .ok (.bipush 8, 2) := by decide +kernel
theorem dX4_timeFrom_7 : decode cX4_timeFrom 7 = .ok (.imul, 1) := by decide +kernel
theorem dX4_timeFrom_8 : decode cX4_timeFrom 8 = .ok (.iload_n 1, 1) := by decide +kernel
theorem dX4_timeFrom_9 : decode cX4_timeFrom 9 = .ok (.iadd, 1) := by decide +kernel
theorem dX4_timeFrom_10 : decode cX4_timeFrom 10 = .ok (.iaload, 1) := by decide +kernel
theorem dX4_timeFrom_11 : decode cX4_timeFrom 11 = .ok (.ireturn, 1) := by decide +kernel
theorem dX4_timeBy_0 : decode cX4_timeBy 0 = .ok (.aload_n 0, 1) := by decide +kernel
theorem dX4_timeBy_1 : decode cX4_timeBy 1 = .ok (.getfield 12, 3) := by decide +kernel
theorem dX4_timeBy_4 : decode cX4_timeBy 4 = .ok (.getfield 89, 3) := by decide +kernel
theorem dX4_timeBy_7 : decode cX4_timeBy 7 = .ok (.iload_n 1, 1) := by decide +kernel
theorem dX4_timeBy_8 : decode cX4_timeBy 8 = .ok (.iaload, 1) := by decide +kernel
theorem dX4_timeBy_9 : decode cX4_timeBy 9 = .ok (.iload_n 2, 1) := by decide +kernel
theorem dX4_timeBy_10 : decode cX4_timeBy 10 = .ok (.invokestatic 77, 3) := by decide +kernel
theorem dX4_timeBy_13 : decode cX4_timeBy 13 = .ok (.ifCond .ne 6, 3) := by decide +kernel
theorem dX4_timeBy_16 : decode cX4_timeBy 16 = .ok (.ldc 49, 2) := by decide +kernel
theorem dX4_timeBy_18 : decode cX4_timeBy 18 = .ok (.ireturn, 1) := by decide +kernel
theorem dX4_timeBy_19 : decode cX4_timeBy 19 = .ok (.ldc 49, 2) := by decide +kernel
theorem dX4_timeBy_21 : decode cX4_timeBy 21 = .ok (.aload_n 0, 1) := by decide +kernel
theorem dX4_timeBy_22 : decode cX4_timeBy 22 = .ok (.getfield 12, 3) := by decide +kernel
theorem dX4_timeBy_25 : decode cX4_timeBy 25 = .ok (.iload_n 1, 1) := by decide +kernel
theorem dX4_timeBy_26 : decode cX4_timeBy 26 = .ok (.iload_n 2, 1) := by decide +kernel
theorem dX4_timeBy_27 : decode cX4_timeBy 27 = .ok (.invokevirtual 113, 3) := by decide +kernel
theorem dX4_timeBy_30 : decode cX4_timeBy 30 = .ok (.aload_n 0, 1) := by decide +kernel
theorem dX4_timeBy_31 : decode cX4_timeBy 31 = .ok (.iload_n 2, 1) := by decide +kernel
theorem dX4_timeBy_32 : decode cX4_timeBy 32 = .ok (.iload_n 3, 1) := by decide +kernel
theorem dX4_timeBy_33 : decode cX4_timeBy 33 = .ok (.invokevirtual 105, 3) := by decide +kernel
theorem dX4_timeBy_36 : decode cX4_timeBy 36 = .ok (.iadd, 1) := by decide +kernel
theorem dX4_timeBy_37 : decode cX4_timeBy 37 = .ok (.invokestatic 108, 3) := by decide +kernel
theorem dX4_timeBy_40 : decode cX4_timeBy 40 = .ok (.ireturn, 1) := by decide +kernel
theorem dX4_countMoments_0 : decode cX4_countMoments 0 = .ok (.iconst 0, 1) := by decide +kernel
theorem dX4_countMoments_1 : decode cX4_countMoments 1 = .ok (.istore_n 1, 1) := by decide +kernel
theorem dX4_countMoments_2 : decode cX4_countMoments 2 = .ok (.aload_n 0, 1) := by decide +kernel
theorem dX4_countMoments_3 : decode cX4_countMoments 3 = .ok (.getfield 39, 3) := by decide +kernel
theorem dX4_countMoments_6 : decode cX4_countMoments 6 = .ok (.istore_n 2, 1) := by decide +kernel
theorem dX4_countMoments_7 : decode cX4_countMoments 7 = .ok (.iload_n 2, 1) := by decide +kernel
theorem dX4_countMoments_8 : decode cX4_countMoments 8 = .ok (.aload_n 0, 1) := by decide +kernel
theorem dX4_countMoments_9 : decode cX4_countMoments 9 = .ok (.getfield 42, 3) := by decide +kernel
theorem dX4_countMoments_12 : decode cX4_countMoments 12 = .ok (.if_icmp .ge 21, 3) := by decide +kernel
theorem dX4_countMoments_15 : decode cX4_countMoments 15 = .ok (.iload_n 1, 1) := by decide +kernel
theorem dX4_countMoments_16 : decode cX4_countMoments 16 = .ok (.aload_n 0, 1) := by decide +kernel
theorem dX4_countMoments_17 : decode cX4_countMoments 17 = .ok (.getfield 22, 3) := by decide +kernel
theorem dX4_countMoments_20 : decode cX4_countMoments 20 = .ok (.iload_n 2, 1) := by decide +kernel
theorem dX4_countMoments_21 : decode cX4_countMoments 21 = .ok (.iaload, 1) := by decide +kernel
theorem dX4_countMoments_22 : decode cX4_countMoments 22 = .ok (.invokestatic 116, 3) := by decide +kernel
theorem dX4_countMoments_25 : decode cX4_countMoments 25 = .ok (.iadd, 1) := by decide +kernel
theorem dX4_countMoments_26 : decode cX4_countMoments 26 = .ok (.istore_n 1, 1) := by decide +kernel
theorem dX4_countMoments_27 : decode cX4_countMoments 27 = .ok (.iinc 2 1, 3) := by decide +kernel
theorem dX4_countMoments_30 : decode cX4_countMoments 30 = .ok (.goto (-23), 3) := by decide +kernel
theorem dX4_countMoments_33 : decode cX4_countMoments 33 = .ok (.iload_n 1, 1) := by decide +kernel
theorem dX4_countMoments_34 : decode cX4_countMoments 34 = .ok (.ireturn, 1) := by decide +kernel
theorem dX4_countDeadEnds_0 : decode cX4_countDeadEnds 0 = .ok (.iconst 0, 1) := by decide +kernel
theorem dX4_countDeadEnds_1 : decode cX4_countDeadEnds 1 = .ok (.istore_n 1, 1) := by decide +kernel
theorem dX4_countDeadEnds_2 : decode cX4_countDeadEnds 2 = .ok (.aload_n 0, 1) := by decide +kernel
theorem dX4_countDeadEnds_3 : decode cX4_countDeadEnds 3 = .ok (.getfield 39, 3) := by decide +kernel
theorem dX4_countDeadEnds_6 : decode cX4_countDeadEnds 6 = .ok (.istore_n 2, 1) := by decide +kernel
theorem dX4_countDeadEnds_7 : decode cX4_countDeadEnds 7 = .ok (.iload_n 2, 1) := by decide +kernel
theorem dX4_countDeadEnds_8 : decode cX4_countDeadEnds 8 = .ok (.aload_n 0, 1) := by decide +kernel
theorem dX4_countDeadEnds_9 : decode cX4_countDeadEnds 9 = .ok (.getfield 42, 3) := by decide +kernel
theorem dX4_countDeadEnds_12 : decode cX4_countDeadEnds 12 = .ok (.if_icmp .ge 50, 3) := by decide +kernel
theorem dX4_countDeadEnds_15 : decode cX4_countDeadEnds 15 = .ok (.iconst 0, 1) := by decide +kernel
theorem dX4_countDeadEnds_16 : decode cX4_countDeadEnds 16 = .ok (.istore_n 3, 1) := by decide +kernel
theorem dX4_countDeadEnds_17 : decode cX4_countDeadEnds 17 = .ok (.iload_n 3, 1) := by decide +kernel
theorem dX4_countDeadEnds_18 : decode cX4_countDeadEnds 18 = .ok (.bipush 8, 2) := by decide +kernel
theorem dX4_countDeadEnds_20 : decode cX4_countDeadEnds 20 = .ok (.if_icmp .ge 36, 3) := by decide +kernel
theorem dX4_countDeadEnds_23 : decode cX4_countDeadEnds 23 = .ok (.aload_n 0, 1) := by decide +kernel
theorem dX4_countDeadEnds_24 : decode cX4_countDeadEnds 24 = .ok (.getfield 22, 3) := by decide +kernel
theorem dX4_countDeadEnds_27 : decode cX4_countDeadEnds 27 = .ok (.iload_n 2, 1) := by decide +kernel
theorem dX4_countDeadEnds_28 : decode cX4_countDeadEnds 28 = .ok (.iaload, 1) := by decide +kernel
theorem dX4_countDeadEnds_29 : decode cX4_countDeadEnds 29 = .ok (.iload_n 3, 1) := by decide +kernel
theorem dX4_countDeadEnds_30 : decode cX4_countDeadEnds 30 = .ok (.invokestatic 77, 3) := by decide +kernel
theorem dX4_countDeadEnds_33 : decode cX4_countDeadEnds 33 = .ok (.ifCond .eq 17, 3) := by decide +kernel
theorem dX4_countDeadEnds_36 : decode cX4_countDeadEnds 36 = .ok (.aload_n 0, 1) := by decide +kernel
theorem dX4_countDeadEnds_37 : decode cX4_countDeadEnds 37 = .ok (.iload_n 3, 1) := by decide +kernel
theorem dX4_countDeadEnds_38 : decode cX4_countDeadEnds 38 = .ok (.iload_n 2, 1) := by decide +kernel
theorem dX4_countDeadEnds_39 : decode cX4_countDeadEnds 39 = .ok (.invokevirtual 105, 3) := by decide +kernel
theorem dX4_countDeadEnds_42 : decode cX4_countDeadEnds 42 = .ok (.ldc 49, 2) := by decide +kernel
theorem dX4_countDeadEnds_44 : decode cX4_countDeadEnds 44 = .ok (.if_icmp .lt 6, 3) := by decide +kernel
theorem dX4_countDeadEnds_47 : decode cX4_countDeadEnds 47 = .ok (.iinc 1 1, 3) := by decide +kernel
theorem dX4_countDeadEnds_50 : decode cX4_countDeadEnds 50 = .ok (.iinc 3 1, 3) := by decide +kernel
theorem dX4_countDeadEnds_53 : decode cX4_countDeadEnds 53 = .ok (.goto (-36), 3) := by decide +kernel
theorem dX4_countDeadEnds_56 : decode cX4_countDeadEnds 56 = .ok (.iinc 2 1, 3) := by decide +kernel
theorem dX4_countDeadEnds_59 : decode cX4_countDeadEnds 59 = .ok (.goto (-52), 3) := by decide +kernel
theorem dX4_countDeadEnds_62 : decode cX4_countDeadEnds 62 = .ok (.iload_n 1, 1) := by decide +kernel
theorem dX4_countDeadEnds_63 : decode cX4_countDeadEnds 63 = .ok (.ireturn, 1) := by decide +kernel
theorem dX4_countTwoVoices_0 : decode cX4_countTwoVoices 0 = .ok (.iconst 0, 1) := by decide +kernel
theorem dX4_countTwoVoices_1 : decode cX4_countTwoVoices 1 = .ok (.istore_n 1, 1) := by decide +kernel
theorem dX4_countTwoVoices_2 : decode cX4_countTwoVoices 2 = .ok (.aload_n 0, 1) := by decide +kernel
theorem dX4_countTwoVoices_3 : decode cX4_countTwoVoices 3 = .ok (.getfield 39, 3) := by decide +kernel
theorem dX4_countTwoVoices_6 : decode cX4_countTwoVoices 6 = .ok (.istore_n 2, 1) := by decide +kernel
theorem dX4_countTwoVoices_7 : decode cX4_countTwoVoices 7 = .ok (.iload_n 2, 1) := by decide +kernel
theorem dX4_countTwoVoices_8 : decode cX4_countTwoVoices 8 = .ok (.aload_n 0, 1) := by decide +kernel
theorem dX4_countTwoVoices_9 : decode cX4_countTwoVoices 9 = .ok (.getfield 42, 3) := by decide +kernel
theorem dX4_countTwoVoices_12 : decode cX4_countTwoVoices 12 = .ok (.if_icmp .ge 66, 3) := by decide +kernel
theorem dX4_countTwoVoices_15 : decode cX4_countTwoVoices 15 = .ok (.iconst 0, 1) := by decide +kernel
theorem dX4_countTwoVoices_16 : decode cX4_countTwoVoices 16 = .ok (.istore_n 3, 1) := by decide +kernel
theorem dX4_countTwoVoices_17 : decode cX4_countTwoVoices 17 = .ok (.iload_n 3, 1) := by decide +kernel
theorem dX4_countTwoVoices_18 : decode cX4_countTwoVoices 18 = .ok (.bipush 8, 2) := by decide +kernel
theorem dX4_countTwoVoices_20 : decode cX4_countTwoVoices 20 = .ok (.if_icmp .ge 52, 3) := by decide +kernel
theorem dX4_countTwoVoices_23 : decode cX4_countTwoVoices 23 = .ok (.aload_n 0, 1) := by decide +kernel
theorem dX4_countTwoVoices_24 : decode cX4_countTwoVoices 24 = .ok (.getfield 22, 3) := by decide +kernel
theorem dX4_countTwoVoices_27 : decode cX4_countTwoVoices 27 = .ok (.iload_n 2, 1) := by decide +kernel
theorem dX4_countTwoVoices_28 : decode cX4_countTwoVoices 28 = .ok (.iaload, 1) := by decide +kernel
theorem dX4_countTwoVoices_29 : decode cX4_countTwoVoices 29 = .ok (.iload_n 3, 1) := by decide +kernel
theorem dX4_countTwoVoices_30 : decode cX4_countTwoVoices 30 = .ok (.invokestatic 77, 3) := by decide +kernel
theorem dX4_countTwoVoices_33 : decode cX4_countTwoVoices 33 = .ok (.ifCond .eq 33, 3) := by decide +kernel
theorem dX4_countTwoVoices_36 : decode cX4_countTwoVoices 36 = .ok (.aload_n 0, 1) := by decide +kernel
theorem dX4_countTwoVoices_37 : decode cX4_countTwoVoices 37 = .ok (.getfield 31, 3) := by decide +kernel
theorem dX4_countTwoVoices_40 : decode cX4_countTwoVoices 40 = .ok (.iload_n 2, 1) := by decide +kernel
theorem dX4_countTwoVoices_41 : decode cX4_countTwoVoices 41 = .ok (.invokevirtual 73, 3) := by decide +kernel
theorem dX4_countTwoVoices_44 : decode cX4_countTwoVoices 44 = .ok (.ifCond .ne 22, 3) := by decide +kernel
theorem dX4_countTwoVoices_47 : decode cX4_countTwoVoices 47 = .ok (.aload_n 0, 1) := by decide +kernel
theorem dX4_countTwoVoices_48 : decode cX4_countTwoVoices 48 = .ok (.getfield 31, 3) := by decide +kernel
theorem dX4_countTwoVoices_51 : decode cX4_countTwoVoices 51 = .ok (.iload_n 3, 1) := by decide +kernel
theorem dX4_countTwoVoices_52 : decode cX4_countTwoVoices 52 = .ok (.iload_n 2, 1) := by decide +kernel
theorem dX4_countTwoVoices_53 : decode cX4_countTwoVoices 53 = .ok (.aload_n 0, 1) := by decide +kernel
theorem dX4_countTwoVoices_54 : decode cX4_countTwoVoices 54 = .ok (.getfield 35, 3) := by decide +kernel
theorem dX4_countTwoVoices_57 : decode cX4_countTwoVoices 57 = .ok (.invokevirtual 122, 3) := by decide +kernel
theorem dX4_countTwoVoices_60 : decode cX4_countTwoVoices 60 = .ok (.ifCond .eq 6, 3) := by decide +kernel
theorem dX4_countTwoVoices_63 : decode cX4_countTwoVoices 63 = .ok (.iinc 1 1, 3) := by decide +kernel
theorem dX4_countTwoVoices_66 : decode cX4_countTwoVoices 66 = .ok (.iinc 3 1, 3) := by decide +kernel
theorem dX4_countTwoVoices_69 : decode cX4_countTwoVoices 69 = .ok (.goto (-52), 3) := by decide +kernel
theorem dX4_countTwoVoices_72 : decode cX4_countTwoVoices 72 = .ok (.iinc 2 1, 3) := by decide +kernel
theorem dX4_countTwoVoices_75 : decode cX4_countTwoVoices 75 = .ok (.goto (-68), 3) := by decide +kernel
theorem dX4_countTwoVoices_78 : decode cX4_countTwoVoices 78 = .ok (.iload_n 1, 1) := by decide +kernel
theorem dX4_countTwoVoices_79 : decode cX4_countTwoVoices 79 = .ok (.ireturn, 1) := by decide +kernel
theorem dX4_heardInSome_0 : decode cX4_heardInSome 0 = .ok (.iconst 0, 1) := by decide +kernel
theorem dX4_heardInSome_1 : decode cX4_heardInSome 1 = .ok (.istore_n 1, 1) := by decide +kernel
theorem dX4_heardInSome_2 : decode cX4_heardInSome 2 = .ok (.aload_n 0, 1) := by decide +kernel
theorem dX4_heardInSome_3 : decode cX4_heardInSome 3 = .ok (.getfield 39, 3) := by decide +kernel
theorem dX4_heardInSome_6 : decode cX4_heardInSome 6 = .ok (.istore_n 2, 1) := by decide +kernel
theorem dX4_heardInSome_7 : decode cX4_heardInSome 7 = .ok (.iload_n 2, 1) := by decide +kernel
theorem dX4_heardInSome_8 : decode cX4_heardInSome 8 = .ok (.aload_n 0, 1) := by decide +kernel
theorem dX4_heardInSome_9 : decode cX4_heardInSome 9 = .ok (.getfield 42, 3) := by decide +kernel
theorem dX4_heardInSome_12 : decode cX4_heardInSome 12 = .ok (.if_icmp .ge 22, 3) := by decide +kernel
theorem dX4_heardInSome_15 : decode cX4_heardInSome 15 = .ok (.aload_n 0, 1) := by decide +kernel
theorem dX4_heardInSome_16 : decode cX4_heardInSome 16 = .ok (.getfield 22, 3) := by decide +kernel
theorem dX4_heardInSome_19 : decode cX4_heardInSome 19 = .ok (.iload_n 2, 1) := by decide +kernel
theorem dX4_heardInSome_20 : decode cX4_heardInSome 20 = .ok (.iaload, 1) := by decide +kernel
theorem dX4_heardInSome_21 : decode cX4_heardInSome 21 = .ok (.ifCond .eq 7, 3) := by decide +kernel
theorem dX4_heardInSome_24 : decode cX4_heardInSome 24 = .ok (.iload_n 1, 1) := by decide +kernel
theorem dX4_heardInSome_25 : decode cX4_heardInSome 25 = .ok (.iload_n 2, 1) := by decide +kernel
theorem dX4_heardInSome_26 : decode cX4_heardInSome 26 = .ok (.ior, 1) := by decide +kernel
theorem dX4_heardInSome_27 : decode cX4_heardInSome 27 = .ok (.istore_n 1, 1) := by decide +kernel
theorem dX4_heardInSome_28 : decode cX4_heardInSome 28 = .ok (.iinc 2 1, 3) := by decide +kernel
theorem dX4_heardInSome_31 : decode cX4_heardInSome 31 = .ok (.goto (-24), 3) := by decide +kernel
theorem dX4_heardInSome_34 : decode cX4_heardInSome 34 = .ok (.iload_n 1, 1) := by decide +kernel
theorem dX4_heardInSome_35 : decode cX4_heardInSome 35 = .ok (.ireturn, 1) := by decide +kernel
theorem dX4_cornerOnQuickest_0 : decode cX4_cornerOnQuickest 0 = .ok (.iload_n 1, 1) := by decide +kernel
theorem dX4_cornerOnQuickest_1 : decode cX4_cornerOnQuickest 1 = .ok (.istore_n 3, 1) := by decide +kernel
theorem dX4_cornerOnQuickest_2 : decode cX4_cornerOnQuickest 2 = .ok (.aload_n 0, 1) := by decide +kernel
theorem dX4_cornerOnQuickest_3 : decode cX4_cornerOnQuickest 3 = .ok (.getfield 39, 3) := by decide +kernel
theorem dX4_cornerOnQuickest_6 : decode cX4_cornerOnQuickest 6 = .ok (.istore 4, 2) := by decide +kernel
theorem dX4_cornerOnQuickest_8 : decode cX4_cornerOnQuickest 8 = .ok (.iconst 0, 1) := by decide +kernel
theorem dX4_cornerOnQuickest_9 : decode cX4_cornerOnQuickest 9 = .ok (.istore 5, 2) := by decide +kernel
theorem dX4_cornerOnQuickest_11 : decode cX4_cornerOnQuickest 11 = .ok (.iconst 0, 1) := by decide +kernel
theorem dX4_cornerOnQuickest_12 : decode cX4_cornerOnQuickest 12 = .ok (.istore 6, 2) := by decide +kernel
theorem dX4_cornerOnQuickest_14 : decode cX4_cornerOnQuickest 14 = .ok (.iload 6, 2) := by decide +kernel
theorem dX4_cornerOnQuickest_16 : decode cX4_cornerOnQuickest 16 = .ok (.aload_n 0, 1) := by decide +kernel
theorem dX4_cornerOnQuickest_17 : decode cX4_cornerOnQuickest 17 = .ok (.getfield 42, 3) := by decide +kernel
theorem dX4_cornerOnQuickest_20 : decode cX4_cornerOnQuickest 20 = .ok (.bipush 8, 2) := by decide +kernel
theorem dX4_cornerOnQuickest_22 : decode cX4_cornerOnQuickest 22 = .ok (.imul, 1) := by decide +kernel
theorem dX4_cornerOnQuickest_23 : decode cX4_cornerOnQuickest 23 = .ok (.if_icmp .ge 84, 3) := by decide +kernel
theorem dX4_cornerOnQuickest_26 : decode cX4_cornerOnQuickest 26 = .ok (.aload_n 0, 1) := by decide +kernel
theorem dX4_cornerOnQuickest_27 : decode cX4_cornerOnQuickest 27 = .ok (.getfield 31, 3) := by decide +kernel
theorem dX4_cornerOnQuickest_30 : decode cX4_cornerOnQuickest 30 = .ok (.iload 4, 2) := by decide +kernel
theorem dX4_cornerOnQuickest_32 : decode cX4_cornerOnQuickest 32 = .ok (.invokevirtual 73, 3) := by decide +kernel
theorem dX4_cornerOnQuickest_35 : decode cX4_cornerOnQuickest 35 = .ok (.ifCond .ne 72, 3) := by decide +kernel
theorem dX4_cornerOnQuickest_38 : decode cX4_cornerOnQuickest 38 = .ok (.aload_n 0, 1) := by decide +kernel
theorem dX4_cornerOnQuickest_39 : decode cX4_cornerOnQuickest 39 = .ok (.getfield 31, 3) := by decide +kernel
theorem dX4_cornerOnQuickest_42 : decode cX4_cornerOnQuickest 42 = .ok (.iconst 0, 1) := by decide +kernel
theorem dX4_cornerOnQuickest_43 : decode cX4_cornerOnQuickest 43 = .ok (.iload_n 3, 1) := by decide +kernel
theorem dX4_cornerOnQuickest_44 : decode cX4_cornerOnQuickest 44 = .ok (.iload 4, 2) := by decide +kernel
theorem dX4_cornerOnQuickest_46 : decode cX4_cornerOnQuickest 46 = .ok (.aload_n 0, 1) := by decide +kernel
theorem dX4_cornerOnQuickest_47 : decode cX4_cornerOnQuickest 47 = .ok (.getfield 35, 3) := by decide +kernel
theorem dX4_cornerOnQuickest_50 : decode cX4_cornerOnQuickest 50 = .ok (.invokevirtual 85, 3) := by decide +kernel
theorem dX4_cornerOnQuickest_53 : decode cX4_cornerOnQuickest 53 = .ok (.istore 7, 2) := by decide +kernel
theorem dX4_cornerOnQuickest_55 : decode cX4_cornerOnQuickest 55 = .ok (.iload 7, 2) := by decide +kernel
theorem dX4_cornerOnQuickest_57 : decode cX4_cornerOnQuickest 57 = .ok (.ifCond .lt 15, 3) := by decide +kernel
theorem dX4_cornerOnQuickest_60 : decode cX4_cornerOnQuickest 60 = .ok (.iload 4, 2) := by decide +kernel
theorem dX4_cornerOnQuickest_62 : decode cX4_cornerOnQuickest 62 = .ok (.iconst 1, 1) := by decide +kernel
theorem dX4_cornerOnQuickest_63 : decode cX4_cornerOnQuickest 63 = .ok (.iload 7, 2) := by decide +kernel
theorem dX4_cornerOnQuickest_65 : decode cX4_cornerOnQuickest 65 = .ok (.ishl, 1) := by decide +kernel
theorem dX4_cornerOnQuickest_66 : decode cX4_cornerOnQuickest 66 = .ok (.ior, 1) := by decide +kernel
theorem dX4_cornerOnQuickest_67 : decode cX4_cornerOnQuickest 67 = .ok (.istore 4, 2) := by decide +kernel
theorem dX4_cornerOnQuickest_69 : decode cX4_cornerOnQuickest 69 = .ok (.goto 32, 3) := by decide +kernel
theorem dX4_cornerOnQuickest_72 : decode cX4_cornerOnQuickest 72 = .ok (.aload_n 0, 1) := by decide +kernel
theorem dX4_cornerOnQuickest_73 : decode cX4_cornerOnQuickest 73 = .ok (.iload_n 3, 1) := by decide +kernel
theorem dX4_cornerOnQuickest_74 : decode cX4_cornerOnQuickest 74 = .ok (.iload 4, 2) := by decide +kernel
theorem dX4_cornerOnQuickest_76 : decode cX4_cornerOnQuickest 76 = .ok (.invokevirtual 126, 3) := by decide +kernel
theorem dX4_cornerOnQuickest_79 : decode cX4_cornerOnQuickest 79 = .ok (.istore 8, 2) := by decide +kernel
theorem dX4_cornerOnQuickest_81 : decode cX4_cornerOnQuickest 81 = .ok (.iload 8, 2) := by decide +kernel
theorem dX4_cornerOnQuickest_83 : decode cX4_cornerOnQuickest 83 = .ok (.ifCond .lt 9, 3) := by decide +kernel
theorem dX4_cornerOnQuickest_86 : decode cX4_cornerOnQuickest 86 = .ok (.iload 5, 2) := by decide +kernel
theorem dX4_cornerOnQuickest_88 : decode cX4_cornerOnQuickest 88 = .ok (.iload_n 2, 1) := by decide +kernel
theorem dX4_cornerOnQuickest_89 : decode cX4_cornerOnQuickest 89 = .ok (.if_icmp .ne 6, 3) := by decide +kernel
theorem dX4_cornerOnQuickest_92 : decode cX4_cornerOnQuickest 92 = .ok (.iload 8, 2) := by decide +kernel
theorem dX4_cornerOnQuickest_94 : decode cX4_cornerOnQuickest 94 = .ok (.ireturn, 1) := by decide +kernel
theorem dX4_cornerOnQuickest_95 : decode cX4_cornerOnQuickest 95 = .ok (.iload 8, 2) := by decide +kernel
theorem dX4_cornerOnQuickest_97 : decode cX4_cornerOnQuickest 97 = .ok (.istore_n 3, 1) := by decide +kernel
theorem dX4_cornerOnQuickest_98 : decode cX4_cornerOnQuickest 98 = .ok (.iinc 5 1, 3) := by decide +kernel
theorem dX4_cornerOnQuickest_101 : decode cX4_cornerOnQuickest 101 = .ok (.iinc 6 1, 3) := by decide +kernel
theorem dX4_cornerOnQuickest_104 : decode cX4_cornerOnQuickest 104 = .ok (.goto (-90), 3) := by decide +kernel
theorem dX4_cornerOnQuickest_107 : decode cX4_cornerOnQuickest 107 = .ok (.iconst (-1), 1) := by decide +kernel
theorem dX4_cornerOnQuickest_108 : decode cX4_cornerOnQuickest 108 = .ok (.ireturn, 1) := by decide +kernel
theorem dX4_quickestStep_0 : decode cX4_quickestStep 0 = .ok (.iconst 0, 1) := by decide +kernel
theorem dX4_quickestStep_1 : decode cX4_quickestStep 1 = .ok (.istore_n 3, 1) := by decide +kernel
theorem dX4_quickestStep_2 : decode cX4_quickestStep 2 = .ok (.iload_n 3, 1) := by decide +kernel
theorem dX4_quickestStep_3 : decode cX4_quickestStep 3 = .ok (.bipush 8, 2) := by decide +kernel
theorem dX4_quickestStep_5 : decode cX4_quickestStep 5 = .ok (.if_icmp .ge 38, 3) := by decide +kernel
theorem dX4_quickestStep_8 : decode cX4_quickestStep 8 = .ok (.aload_n 0, 1) := by decide +kernel
theorem dX4_quickestStep_9 : decode cX4_quickestStep 9 = .ok (.iload_n 1, 1) := by decide +kernel
theorem dX4_quickestStep_10 : decode cX4_quickestStep 10 = .ok (.iload_n 3, 1) := by decide +kernel
theorem dX4_quickestStep_11 : decode cX4_quickestStep 11 = .ok (.iload_n 2, 1) := by decide +kernel
theorem dX4_quickestStep_12 : decode cX4_quickestStep 12 = .ok (.invokevirtual 129, 3) := by decide +kernel
theorem dX4_quickestStep_15 : decode cX4_quickestStep 15 = .ok (.istore 4, 2) := by decide +kernel
theorem dX4_quickestStep_17 : decode cX4_quickestStep 17 = .ok (.iload 4, 2) := by decide +kernel
theorem dX4_quickestStep_19 : decode cX4_quickestStep 19 = .ok (.ldc 49, 2) := by decide +kernel
theorem dX4_quickestStep_21 : decode cX4_quickestStep 21 = .ok (.if_icmp .ge 16, 3) := by decide +kernel
theorem dX4_quickestStep_24 : decode cX4_quickestStep 24 = .ok (.iload 4, 2) := by decide +kernel
theorem dX4_quickestStep_26 : decode cX4_quickestStep 26 = .ok (.aload_n 0, 1) := by decide +kernel
theorem dX4_quickestStep_27 : decode cX4_quickestStep 27 = .ok (.iload_n 1, 1) := by decide +kernel
theorem dX4_quickestStep_28 : decode cX4_quickestStep 28 = .ok (.iload_n 2, 1) := by decide +kernel
theorem dX4_quickestStep_29 : decode cX4_quickestStep 29 = .ok (.invokevirtual 105, 3) := by decide +kernel
theorem dX4_quickestStep_32 : decode cX4_quickestStep 32 = .ok (.if_icmp .ne 5, 3) := by decide +kernel
theorem dX4_quickestStep_35 : decode cX4_quickestStep 35 = .ok (.iload_n 3, 1) := by decide +kernel
theorem dX4_quickestStep_36 : decode cX4_quickestStep 36 = .ok (.ireturn, 1) := by decide +kernel
theorem dX4_quickestStep_37 : decode cX4_quickestStep 37 = .ok (.iinc 3 1, 3) := by decide +kernel
theorem dX4_quickestStep_40 : decode cX4_quickestStep 40 = .ok (.goto (-38), 3) := by decide +kernel
theorem dX4_quickestStep_43 : decode cX4_quickestStep 43 = .ok (.iconst (-1), 1) := by decide +kernel
theorem dX4_quickestStep_44 : decode cX4_quickestStep 44 = .ok (.ireturn, 1) := by decide +kernel
