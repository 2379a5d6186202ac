theorem dX11_of_64 : decode cX11_of 64 = .ok (.iload 4, 2) := by decide +kernel
theorem dX11_of_66 : decode cX11_of 66 = .ok (.iaload, 1) := by decide +kernel
theorem dX11_of_67 : decode cX11_of 67 = .ok (.ireturn, 1) := by decide +kernel
theorem dX11_of_68 : decode cX11_of 68 = .ok (.aload_n 0, 1) := by decide +kernel
theorem dX11_of_69 : decode cX11_of 69 = .ok (.getfield 38, 3) := by decide +kernel
theorem dX11_of_72 : decode cX11_of 72 = .ok (.iload 4, 2) := by decide +kernel
theorem dX11_of_74 : decode cX11_of 74 = .ok (.iaload, 1) := by decide +kernel
theorem dX11_of_75 : decode cX11_of 75 = .ok (.ireturn, 1) := by decide +kernel
theorem dX11_of_76 : decode cX11_of 76 = .ok (.aload_n 0, 1) := by decide +kernel
theorem dX11_of_77 : decode cX11_of 77 = .ok (.getfield 41, 3) := by decide +kernel
theorem dX11_of_80 : decode cX11_of 80 = .ok (.iload 4, 2) := by decide +kernel
theorem dX11_of_82 : decode cX11_of 82 = .ok (.iaload, 1) := by decide +kernel
theorem dX11_of_83 : decode cX11_of 83 = .ok (.ireturn, 1) := by decide +kernel
theorem dX11_of_84 : decode cX11_of 84 = .ok (.aload_n 0, 1) := by decide +kernel
theorem dX11_of_85 : decode cX11_of 85 = .ok (.getfield 44, 3) := by decide +kernel
theorem dX11_of_88 : decode cX11_of 88 = .ok (.iload 4, 2) := by decide +kernel
theorem dX11_of_90 : decode cX11_of 90 = .ok (.iaload, 1) := by decide +kernel
theorem dX11_of_91 : decode cX11_of 91 = .ok (.ireturn, 1) := by decide +kernel
theorem dX11_of_92 : decode cX11_of 92 = .ok (.aload_n 0, 1) := by decide +kernel
theorem dX11_of_93 : decode cX11_of 93 = .ok (.getfield 47, 3) := by decide +kernel
theorem dX11_of_96 : decode cX11_of 96 = .ok (.iload 4, 2) := by decide +kernel
theorem dX11_of_98 : decode cX11_of 98 = .ok (.iaload, 1) := by decide +kernel
theorem dX11_of_99 : decode cX11_of 99 = .ok (.ireturn, 1) := by decide +kernel
theorem dX11_of_100 : decode cX11_of 100 = .ok (.aload_n 0, 1) := by decide +kernel
theorem dX11_of_101 : decode cX11_of 101 = .ok (.ldc 131, 2) := by decide +kernel
theorem dX11_of_103 : decode cX11_of 103 = .ok (.invokevirtual 132, 3) := by decide +kernel
theorem dX11_of_106 : decode cX11_of 106 = .ok (.ireturn, 1) := by decide +kernel
theorem dX11_canTell_0 : decode cX11_canTell 0 = .ok (.bipush 12, 2) := by decide +kernel
theorem dX11_canTell_2 : decode cX11_canTell 2 = .ok (.iload_n 1, 1) := by decide +kernel
theorem dX11_canTell_3 : decode cX11_canTell 3 = .ok (.imul, 1) := by decide +kernel
theorem dX11_canTell_4 : decode cX11_canTell 4 = .ok (.iload_n 2, 1) := by decide +kernel
theorem dX11_canTell_5 : decode cX11_canTell 5 = .ok (.iadd, 1) := by decide +kernel
theorem dX11_canTell_6 : decode cX11_canTell 6 = .ok (.istore 6, 2) := by decide +kernel
theorem dX11_canTell_8 : decode cX11_canTell 8 = .ok (.aload_n 0, 1) := by decide +kernel
theorem dX11_canTell_9 : decode cX11_canTell 9 = .ok (.getfield 35, 3) := by decide +kernel
theorem dX11_canTell_12 : decode cX11_canTell 12 = .ok (.iload 6, 2) := by decide +kernel
theorem dX11_canTell_14 : decode cX11_canTell 14 = .ok (.iaload, 1) := by decide +kernel
theorem dX11_canTell_15 : decode cX11_canTell 15 = .ok (.iconst 2, 1) := by decide +kernel
theorem dX11_canTell_16 : decode cX11_canTell 16 = .ok (.if_icmp .ge 26, 3) := by decide +kernel
theorem dX11_canTell_19 : decode cX11_canTell 19 = .ok (.aload_n 0, 1) := by decide +kernel
theorem dX11_canTell_20 : decode cX11_canTell 20 = .ok (.getfield 44, 3) := by decide +kernel
theorem dX11_canTell_23 : decode cX11_canTell 23 = .ok (.iload 6, 2) := by decide +kernel
theorem dX11_canTell_25 : decode cX11_canTell 25 = .ok (.iaload, 1) := by decide +kernel
theorem dX11_canTell_26 : decode cX11_canTell 26 = .ok (.iload 4, 2) := by decide +kernel
theorem dX11_canTell_28 : decode cX11_canTell 28 = .ok (.iconst (-1), 1) := by decide +kernel
theorem dX11_canTell_29 : decode cX11_canTell 29 = .ok (.ixor, 1) := by decide +kernel
theorem dX11_canTell_30 : decode cX11_canTell 30 = .ok (.iand, 1) := by decide +kernel
theorem dX11_canTell_31 : decode cX11_canTell 31 = .ok (.ifCond .ne 7, 3) := by decide +kernel
theorem dX11_canTell_34 : decode cX11_canTell 34 = .ok (.iconst 1, 1) := by decide +kernel
theorem dX11_canTell_35 : decode cX11_canTell 35 = .ok (.goto 35, 3) := by decide +kernel
theorem dX11_canTell_38 : decode cX11_canTell 38 = .ok (.iconst 0, 1) := by decide +kernel
theorem dX11_canTell_39 : decode cX11_canTell 39 = .ok (.goto 31, 3) := by decide +kernel
theorem dX11_canTell_42 : decode cX11_canTell 42 = .ok (.aload_n 0, 1) := by decide +kernel
theorem dX11_canTell_43 : decode cX11_canTell 43 = .ok (.getfield 44, 3) := by decide +kernel
theorem dX11_canTell_46 : decode cX11_canTell 46 = .ok (.iload 6, 2) := by decide +kernel
theorem dX11_canTell_48 : decode cX11_canTell 48 = .ok (.iaload, 1) := by decide +kernel
theorem dX11_canTell_49 : decode cX11_canTell 49 = .ok (.ifCond .eq 16, 3) := by decide +kernel
theorem dX11_canTell_52 : decode cX11_canTell 52 = .ok (.aload_n 0, 1) := by decide +kernel
theorem dX11_canTell_53 : decode cX11_canTell 53 = .ok (.getfield 44, 3) := by decide +kernel
theorem dX11_canTell_56 : decode cX11_canTell 56 = .ok (.iload 6, 2) := by decide +kernel
theorem dX11_canTell_58 : decode cX11_canTell 58 = .ok (.iaload, 1) := by decide +kernel
theorem dX11_canTell_59 : decode cX11_canTell 59 = .ok (.iload 4, 2) := by decide +kernel
theorem dX11_canTell_61 : decode cX11_canTell 61 = .ok (.iand, 1) := by decide +kernel
theorem dX11_canTell_62 : decode cX11_canTell 62 = .ok (.ifCond .eq 7, 3) := by decide +kernel
theorem dX11_canTell_65 : decode cX11_canTell 65 = .ok (.iconst 1, 1) := by decide +kernel
theorem dX11_canTell_66 : decode cX11_canTell 66 = .ok (.goto 4, 3) := by decide +kernel
theorem dX11_canTell_69 : decode cX11_canTell 69 = .ok (.iconst 0, 1) := by decide +kernel
theorem dX11_canTell_70 : decode cX11_canTell 70 = .ok (.istore 7, 2) := by decide +kernel
theorem dX11_canTell_72 : decode cX11_canTell 72 = .ok (.aload_n 0, 1) := by decide +kernel
theorem dX11_canTell_73 : decode cX11_canTell 73 = .ok (.getfield 38, 3) := by decide +kernel
theorem dX11_canTell_76 : decode cX11_canTell 76 = .ok (.iload 6, 2) := by decide +kernel
theorem dX11_canTell_78 : decode cX11_canTell 78 = .ok (.iaload, 1) := by decide +kernel
theorem dX11_canTell_79 : decode cX11_canTell 79 = .ok (.iload_n 3, 1) := by decide +kernel
theorem dX11_canTell_80 : decode cX11_canTell 80 = .ok (.if_icmp .ne 37, 3) := by decide +kernel
theorem dX11_canTell_83 : decode cX11_canTell 83 = .ok (.iload 4, 2) := by decide +kernel
theorem dX11_canTell_85 : decode cX11_canTell 85 = .ok (.iload_n 2, 1) := by decide +kernel
theorem dX11_canTell_86 : decode cX11_canTell 86 = .ok (.ishr, 1) := by decide +kernel
theorem dX11_canTell_87 : decode cX11_canTell 87 = .ok (.iconst 1, 1) := by decide +kernel
theorem dX11_canTell_88 : decode cX11_canTell 88 = .ok (.iand, 1) := by decide +kernel
theorem dX11_canTell_89 : decode cX11_canTell 89 = .ok (.ifCond .ne 28, 3) := by decide +kernel
theorem dX11_canTell_92 : decode cX11_canTell 92 = .ok (.aload_n 0, 1) := by decide +kernel
theorem dX11_canTell_93 : decode cX11_canTell 93 = .ok (.getfield 47, 3) := by decide +kernel
theorem dX11_canTell_96 : decode cX11_canTell 96 = .ok (.iload 6, 2) := by decide +kernel
theorem dX11_canTell_98 : decode cX11_canTell 98 = .ok (.iaload, 1) := by decide +kernel
theorem dX11_canTell_99 : decode cX11_canTell 99 = .ok (.iload 5, 2) := by decide +kernel
theorem dX11_canTell_101 : decode cX11_canTell 101 = .ok (.ishr, 1) := by decide +kernel
theorem dX11_canTell_102 : decode cX11_canTell 102 = .ok (.iconst 1, 1) := by decide +kernel
theorem dX11_canTell_103 : decode cX11_canTell 103 = .ok (.iand, 1) := by decide +kernel
theorem dX11_canTell_104 : decode cX11_canTell 104 = .ok (.iconst 1, 1) := by decide +kernel
theorem dX11_canTell_105 : decode cX11_canTell 105 = .ok (.if_icmp .ne 12, 3) := by decide +kernel
theorem dX11_canTell_108 : decode cX11_canTell 108 = .ok (.iload 7, 2) := by decide +kernel
theorem dX11_canTell_110 : decode cX11_canTell 110 = .ok (.ifCond .eq 7, 3) := by decide +kernel
theorem dX11_canTell_113 : decode cX11_canTell 113 = .ok (.iconst 1, 1) := by decide +kernel
theorem dX11_canTell_114 : decode cX11_canTell 114 = .ok (.goto 4, 3) := by decide +kernel
theorem dX11_canTell_117 : decode cX11_canTell 117 = .ok (.iconst 0, 1) := by decide +kernel
theorem dX11_canTell_118 : decode cX11_canTell 118 = .ok (.ireturn, 1) := by decide +kernel
theorem dX11_manyCan_0 : decode cX11_manyCan 0 = .ok (.iconst 0, 1) := by decide +kernel
theorem dX11_manyCan_1 : decode cX11_manyCan 1 = .ok (.istore 5, 2) := by decide +kernel
theorem dX11_manyCan_3 : decode cX11_manyCan 3 = .ok (.iconst 0, 1) := by decide +kernel
theorem dX11_manyCan_4 : decode cX11_manyCan 4 = .ok (.istore 6, 2) := by decide +kernel
theorem dX11_manyCan_6 : decode cX11_manyCan 6 = .ok (.iload 6, 2) := by decide +kernel
theorem dX11_manyCan_8 : decode cX11_manyCan 8 = .ok (.aload_n 0, 1) := by decide +kernel
theorem dX11_manyCan_9 : decode cX11_manyCan 9 = .ok (.getfield 32, 3) := by decide +kernel
theorem dX11_manyCan_12 : decode cX11_manyCan 12 = .ok (.iload_n 1, 1) := by decide +kernel
theorem dX11_manyCan_13 : decode cX11_manyCan 13 = .ok (.iaload, 1) := by decide +kernel
theorem dX11_manyCan_14 : decode cX11_manyCan 14 = .ok (.if_icmp .ge 33, 3) := by decide +kernel
theorem dX11_manyCan_17 : decode cX11_manyCan 17 = .ok (.iload 5, 2) := by decide +kernel
theorem dX11_manyCan_19 : decode cX11_manyCan 19 = .ok (.aload_n 0, 1) := by decide +kernel
theorem dX11_manyCan_20 : decode cX11_manyCan 20 = .ok (.iload_n 1, 1) := by decide +kernel
theorem dX11_manyCan_21 : decode cX11_manyCan 21 = .ok (.iload 6, 2) := by decide +kernel
theorem dX11_manyCan_23 : decode cX11_manyCan 23 = .ok (.iload_n 2, 1) := by decide +kernel
theorem dX11_manyCan_24 : decode cX11_manyCan 24 = .ok (.iload_n 3, 1) := by decide +kernel
theorem dX11_manyCan_25 : decode cX11_manyCan 25 = .ok (.iload 4, 2) := by decide +kernel
theorem dX11_manyCan_27 : decode cX11_manyCan 27 = .ok (.invokevirtual 199, 3) := by decide +kernel
theorem dX11_manyCan_30 : decode cX11_manyCan 30 = .ok (.ifCond .eq 7, 3) := by decide +kernel
theorem dX11_manyCan_33 : decode cX11_manyCan 33 = .ok (.iconst 1, 1) := by decide +kernel
theorem dX11_manyCan_34 : decode cX11_manyCan 34 = .ok (.goto 4, 3) := by decide +kernel
theorem dX11_manyCan_37 : decode cX11_manyCan 37 = .ok (.iconst 0, 1) := by decide +kernel
theorem dX11_manyCan_38 : decode cX11_manyCan 38 = .ok (.iadd, 1) := by decide +kernel
theorem dX11_manyCan_39 : decode cX11_manyCan 39 = .ok (.istore 5, 2) := by decide +kernel
theorem dX11_manyCan_41 : decode cX11_manyCan 41 = .ok (.iinc 6 1, 3) := by decide +kernel
theorem dX11_manyCan_44 : decode cX11_manyCan 44 = .ok (.goto (-38), 3) := by decide +kernel
theorem dX11_manyCan_47 : decode cX11_manyCan 47 = .ok (.iload 5, 2) := by decide +kernel
theorem dX11_manyCan_49 : decode cX11_manyCan 49 = .ok (.ireturn, 1) := by decide +kernel
theorem dX11_nextPiece_0 : decode cX11_nextPiece 0 = .ok (.iconst 0, 1) := by decide +kernel
theorem dX11_nextPiece_1 : decode cX11_nextPiece 1 = .ok (.istore 5, 2) := by decide +kernel
theorem dX11_nextPiece_3 : decode cX11_nextPiece 3 = .ok (.iload 5, 2) := by decide +kernel
theorem dX11_nextPiece_5 : decode cX11_nextPiece 5 = .ok (.aload_n 0, 1) := by decide +kernel
theorem dX11_nextPiece_6 : decode cX11_nextPiece 6 = .ok (.getfield 32, 3) := by decide +kernel
theorem dX11_nextPiece_9 : decode cX11_nextPiece 9 = .ok (.iload_n 1, 1) := by decide +kernel
theorem dX11_nextPiece_10 : decode cX11_nextPiece 10 = .ok (.iaload, 1) := by decide +kernel
theorem dX11_nextPiece_11 : decode cX11_nextPiece 11 = .ok (.if_icmp .ge 26, 3) := by decide +kernel
theorem dX11_nextPiece_14 : decode cX11_nextPiece 14 = .ok (.aload_n 0, 1) := by decide +kernel
theorem dX11_nextPiece_15 : decode cX11_nextPiece 15 = .ok (.iload_n 1, 1) := by decide +kernel
theorem dX11_nextPiece_16 : decode cX11_nextPiece 16 = .ok (.iload 5, 2) := by decide +kernel
theorem dX11_nextPiece_18 : decode cX11_nextPiece 18 = .ok (.iload_n 2, 1) := by decide +kernel
theorem dX11_nextPiece_19 : decode cX11_nextPiece 19 = .ok (.iload_n 3, 1) := by decide +kernel
theorem dX11_nextPiece_20 : decode cX11_nextPiece 20 = .ok (.iload 4, 2) := by decide +kernel
theorem dX11_nextPiece_22 : decode cX11_nextPiece 22 = .ok (.invokevirtual 199, 3) := by decide +kernel
theorem dX11_nextPiece_25 : decode cX11_nextPiece 25 = .ok (.ifCond .eq 6, 3) := by decide +kernel
theorem dX11_nextPiece_28 : decode cX11_nextPiece 28 = .ok (.iload 5, 2) := by decide +kernel
theorem dX11_nextPiece_30 : decode cX11_nextPiece 30 = .ok (.ireturn, 1) := by decide +kernel
theorem dX11_nextPiece_31 : decode cX11_nextPiece 31 = .ok (.iinc 5 1, 3) := by decide +kernel
theorem dX11_nextPiece_34 : decode cX11_nextPiece 34 = .ok (.goto (-31), 3) := by decide +kernel
theorem dX11_nextPiece_37 : decode cX11_nextPiece 37 = .ok (.iconst (-1), 1) := by decide +kernel
theorem dX11_nextPiece_38 : decode cX11_nextPiece 38 = .ok (.ireturn, 1) := by decide +kernel
theorem dX11_isOver_0 : decode cX11_isOver 0 = .ok (.iconst 0, 1) := by decide +kernel
theorem dX11_isOver_1 : decode cX11_isOver 1 = .ok (.istore_n 3, 1) := by decide +kernel
theorem dX11_isOver_2 : decode cX11_isOver 2 = .ok (.iconst 0, 1) := by decide +kernel
theorem dX11_isOver_3 : decode cX11_isOver 3 = .ok (.istore 4, 2) := by decide +kernel
theorem dX11_isOver_5 : decode cX11_isOver 5 = .ok (.iload 4, 2) := by decide +kernel
theorem dX11_isOver_7 : decode cX11_isOver 7 = .ok (.aload_n 0, 1) := by decide +kernel
theorem dX11_isOver_8 : decode cX11_isOver 8 = .ok (.getfield 32, 3) := by decide +kernel
theorem dX11_isOver_11 : decode cX11_isOver 11 = .ok (.iload_n 1, 1) := by decide +kernel
theorem dX11_isOver_12 : decode cX11_isOver 12 = .ok (.iaload, 1) := by decide +kernel
theorem dX11_isOver_13 : decode cX11_isOver 13 = .ok (.if_icmp .ge 45, 3) := by decide +kernel
theorem dX11_isOver_16 : decode cX11_isOver 16 = .ok (.iload_n 3, 1) := by decide +kernel
theorem dX11_isOver_17 : decode cX11_isOver 17 = .ok (.ifCond .ne 29, 3) := by decide +kernel
theorem dX11_isOver_20 : decode cX11_isOver 20 = .ok (.aload_n 0, 1) := by decide +kernel
theorem dX11_isOver_21 : decode cX11_isOver 21 = .ok (.getfield 35, 3) := by decide +kernel
theorem dX11_isOver_24 : decode cX11_isOver 24 = .ok (.bipush 12, 2) := by decide +kernel
theorem dX11_isOver_26 : decode cX11_isOver 26 = .ok (.iload_n 1, 1) := by decide +kernel
theorem dX11_isOver_27 : decode cX11_isOver 27 = .ok (.imul, 1) := by decide +kernel
theorem dX11_isOver_28 : decode cX11_isOver 28 = .ok (.iload 4, 2) := by decide +kernel
theorem dX11_isOver_30 : decode cX11_isOver 30 = .ok (.iadd, 1) := by decide +kernel
theorem dX11_isOver_31 : decode cX11_isOver 31 = .ok (.iaload, 1) := by decide +kernel
theorem dX11_isOver_32 : decode cX11_isOver 32 = .ok (.iconst 3, 1) := by decide +kernel
theorem dX11_isOver_33 : decode cX11_isOver 33 = .ok (.if_icmp .ne 17, 3) := by decide +kernel
theorem dX11_isOver_36 : decode cX11_isOver 36 = .ok (.iload_n 2, 1) := by decide +kernel
theorem dX11_isOver_37 : decode cX11_isOver 37 = .ok (.iload 4, 2) := by decide +kernel
theorem dX11_isOver_39 : decode cX11_isOver 39 = .ok (.ishr, 1) := by decide +kernel
theorem dX11_isOver_40 : decode cX11_isOver 40 = .ok (.iconst 1, 1) := by decide +kernel
theorem dX11_isOver_41 : decode cX11_isOver 41 = .ok (.iand, 1) := by decide +kernel
theorem dX11_isOver_42 : decode cX11_isOver 42 = .ok (.iconst 1, 1) := by decide +kernel
theorem dX11_isOver_43 : decode cX11_isOver 43 = .ok (.if_icmp .ne 7, 3) := by decide +kernel
theorem dX11_isOver_46 : decode cX11_isOver 46 = .ok (.iconst 1, 1) := by decide +kernel
theorem dX11_isOver_47 : decode cX11_isOver 47 = .ok (.goto 4, 3) := by decide +kernel
theorem dX11_isOver_50 : decode cX11_isOver 50 = .ok (.iconst 0, 1) := by decide +kernel
theorem dX11_isOver_51 : decode cX11_isOver 51 = .ok (.istore_n 3, 1) := by decide +kernel
theorem dX11_isOver_52 : decode cX11_isOver 52 = .ok (.iinc 4 1, 3) := by decide +kernel
theorem dX11_isOver_55 : decode cX11_isOver 55 = .ok (.goto (-50), 3) := by decide +kernel
theorem dX11_isOver_58 : decode cX11_isOver 58 = .ok (.iload_n 3, 1) := by decide +kernel
theorem dX11_isOver_59 : decode cX11_isOver 59 = .ok (.ireturn, 1) := by decide +kernel
theorem dX11_momentOf_0 : decode cX11_momentOf 0 = .ok (.bipush 8, 2) := by decide +kernel
theorem dX11_momentOf_2 : decode cX11_momentOf 2 = .ok (.iload_n 1, 1) := by decide +kernel
theorem dX11_momentOf_3 : decode cX11_momentOf 3 = .ok (.imul, 1) := by decide +kernel
theorem dX11_momentOf_4 : decode cX11_momentOf 4 = .ok (.iload_n 0, 1) := by decide +kernel
theorem dX11_momentOf_5 : decode cX11_momentOf 5 = .ok (.iadd, 1) := by decide +kernel
theorem dX11_momentOf_6 : decode cX11_momentOf 6 = .ok (.ireturn, 1) := by decide +kernel
theorem dX11_findTimes_0 : decode cX11_findTimes 0 = .ok (.bipush 8, 2) := by decide +kernel
theorem dX11_findTimes_2 : decode cX11_findTimes 2 = .ok (.newarray .boolean, 2) := by decide +kernel
theorem dX11_findTimes_4 : decode cX11_findTimes 4 = .ok (.astore 4, 2) := by decide +kernel
theorem dX11_findTimes_6 : decode cX11_findTimes 6 = .ok (.iconst 1, 1) := by decide +kernel
theorem dX11_findTimes_7 : decode cX11_findTimes 7 = .ok (.aload_n 0, 1) := by decide +kernel
theorem dX11_findTimes_8 : decode cX11_findTimes 8 = .ok (.getfield 32, 3) := by decide +kernel
theorem dX11_findTimes_11 : decode cX11_findTimes 11 = .ok (.iload_n 1, 1) := by decide +kernel
theorem dX11_findTimes_12 : decode cX11_findTimes 12 = .ok (.iaload, 1) := by decide +kernel
theorem dX11_findTimes_13 : decode cX11_findTimes 13 = .ok (.ishl, 1) := by decide +kernel
theorem dX11_findTimes_14 : decode cX11_findTimes 14 = .ok (.iconst 1, 1) := by decide +kernel
theorem dX11_findTimes_15 : decode cX11_findTimes 15 = .ok (.isub, 1) := by decide +kernel
theorem dX11_findTimes_16 : decode cX11_findTimes 16 = .ok (.istore 5, 2) := by decide +kernel
theorem dX11_findTimes_18 : decode cX11_findTimes 18 = .ok (.iload 5, 2) := by decide +kernel
theorem dX11_findTimes_20 : decode cX11_findTimes 20 = .ok (.ifCond .lt 253, 3) := by decide +kernel
theorem dX11_findTimes_23 : decode cX11_findTimes 23 = .ok (.aload_n 0, 1) := by decide +kernel
theorem dX11_findTimes_24 : decode cX11_findTimes 24 = .ok (.iload_n 1, 1) := by decide +kernel
theorem dX11_findTimes_25 : decode cX11_findTimes 25 = .ok (.iload 5, 2) := by decide +kernel
theorem dX11_findTimes_27 : decode cX11_findTimes 27 = .ok (.invokevirtual 203, 3) := by decide +kernel
theorem dX11_findTimes_30 : decode cX11_findTimes 30 = .ok (.istore 6, 2) := by decide +kernel
theorem dX11_findTimes_32 : decode cX11_findTimes 32 = .ok (.iconst 0, 1) := by decide +kernel
theorem dX11_findTimes_33 : decode cX11_findTimes 33 = .ok (.istore 7, 2) := by decide +kernel
theorem dX11_findTimes_35 : decode cX11_findTimes 35 = .ok (.iload 7, 2) := by decide +kernel
theorem dX11_findTimes_37 : decode cX11_findTimes 37 = .ok (.aload_n 0, 1) := by decide +kernel
theorem dX11_findTimes_38 : decode cX11_findTimes 38 = .ok (.getfield 118, 3) := by decide +kernel
theorem dX11_findTimes_41 : decode cX11_findTimes 41 = .ok (.if_icmp .ge 116, 3) := by decide +kernel
theorem dX11_findTimes_44 : decode cX11_findTimes 44 = .ok (.iload 6, 2) := by decide +kernel
theorem dX11_findTimes_46 : decode cX11_findTimes 46 = .ok (.ifCond .eq 7, 3) := by decide +kernel
theorem dX11_findTimes_49 : decode cX11_findTimes 49 = .ok (.iconst (-1), 1) := by decide +kernel
theorem dX11_findTimes_50 : decode cX11_findTimes 50 = .ok (.goto 13, 3) := by decide +kernel
theorem dX11_findTimes_53 : decode cX11_findTimes 53 = .ok (.aload_n 0, 1) := by decide +kernel
theorem dX11_findTimes_54 : decode cX11_findTimes 54 = .ok (.iload_n 1, 1) := by decide +kernel
theorem dX11_findTimes_55 : decode cX11_findTimes 55 = .ok (.iload 7, 2) := by decide +kernel
theorem dX11_findTimes_57 : decode cX11_findTimes 57 = .ok (.iload 5, 2) := by decide +kernel
theorem dX11_findTimes_59 : decode cX11_findTimes 59 = .ok (.iload_n 2, 1) := by decide +kernel
theorem dX11_findTimes_60 : decode cX11_findTimes 60 = .ok (.invokevirtual 206, 3) := by decide +kernel
theorem dX11_findTimes_63 : decode cX11_findTimes 63 = .ok (.istore 8, 2) := by decide +kernel
theorem dX11_findTimes_65 : decode cX11_findTimes 65 = .ok (.aload 4, 2) := by decide +kernel
theorem dX11_findTimes_67 : decode cX11_findTimes 67 = .ok (.iload 7, 2) := by decide +kernel
theorem dX11_findTimes_69 : decode cX11_findTimes 69 = .ok (.iload 6, 2) := by decide +kernel
theorem dX11_findTimes_71 : decode cX11_findTimes 71 = .ok (.ifCond .ne 12, 3) := by decide +kernel
theorem dX11_findTimes_74 : decode cX11_findTimes 74 = .ok (.iload 8, 2) := by decide +kernel
theorem dX11_findTimes_76 : decode cX11_findTimes 76 = .ok (.ifCond .ge 7, 3) := by decide +kernel
theorem dX11_findTimes_79 : decode cX11_findTimes 79 = .ok (.iconst 1, 1) := by decide +kernel
theorem dX11_findTimes_80 : decode cX11_findTimes 80 = .ok (.goto 4, 3) := by decide +kernel
theorem dX11_findTimes_83 : decode cX11_findTimes 83 = .ok (.iconst 0, 1) := by decide +kernel
theorem dX11_findTimes_84 : decode cX11_findTimes 84 = .ok (.bastore, 1) := by decide +kernel
theorem dX11_findTimes_85 : decode cX11_findTimes 85 = .ok (.aload_n 0, 1) := by decide +kernel
theorem dX11_findTimes_86 : decode cX11_findTimes 86 = .ok (.getfield 102, 3) := by decide +kernel
theorem dX11_findTimes_89 : decode cX11_findTimes 89 = .ok (.iload 7, 2) := by decide +kernel
theorem dX11_findTimes_91 : decode cX11_findTimes 91 = .ok (.iload 5, 2) := by decide +kernel
theorem dX11_findTimes_93 : decode cX11_findTimes 93 = .ok (.invokestatic 210, 3) := by decide +kernel
theorem dX11_findTimes_96 : decode cX11_findTimes 96 = .ok (.iload 6, 2) := by decide +kernel
theorem dX11_findTimes_98 : decode cX11_findTimes 98 = .ok (.ifCond .eq 7, 3) := by decide +kernel
theorem dX11_findTimes_101 : decode cX11_findTimes 101 = .ok (.iconst 0, 1) := by decide +kernel
theorem dX11_findTimes_102 : decode cX11_findTimes 102 = .ok (.goto 48, 3) := by decide +kernel
theorem dX11_findTimes_105 : decode cX11_findTimes 105 = .ok (.iload 8, 2) := by decide +kernel
theorem dX11_findTimes_107 : decode cX11_findTimes 107 = .ok (.ifCond .ge 8, 3) := by decide +kernel
theorem dX11_findTimes_110 : decode cX11_findTimes 110 = .ok (.ldc 147, 2) := by decide +kernel
theorem dX11_findTimes_112 : decode cX11_findTimes 112 = .ok (.goto 38, 3) := by decide +kernel
theorem dX11_findTimes_115 : decode cX11_findTimes 115 = .ok (.ldc 147, 2) := by decide +kernel
theorem dX11_findTimes_117 : decode cX11_findTimes 117 = .ok (.aload_n 0, 1) := by decide +kernel
theorem dX11_findTimes_118 : decode cX11_findTimes 118 = .ok (.getfield 41, 3) := by decide +kernel
theorem dX11_findTimes_121 : decode cX11_findTimes 121 = .ok (.bipush 12, 2) := by decide +kernel
theorem dX11_findTimes_123 : decode cX11_findTimes 123 = .ok (.iload_n 1, 1) := by decide +kernel
theorem dX11_findTimes_124 : decode cX11_findTimes 124 = .ok (.imul, 1) := by decide +kernel
theorem dX11_findTimes_125 : decode cX11_findTimes 125 = .ok (.iload 8, 2) := by decide +kernel
theorem dX11_findTimes_127 : decode cX11_findTimes 127 = .ok (.iadd, 1) := by decide +kernel
theorem dX11_findTimes_128 : decode cX11_findTimes 128 = .ok (.iaload, 1) := by decide +kernel
theorem dX11_findTimes_129 : decode cX11_findTimes 129 = .ok (.aload_n 0, 1) := by decide +kernel
theorem dX11_findTimes_130 : decode cX11_findTimes 130 = .ok (.getfield 102, 3) := by decide +kernel
theorem dX11_findTimes_133 : decode cX11_findTimes 133 = .ok (.iload 7, 2) := by decide +kernel
theorem dX11_findTimes_135 : decode cX11_findTimes 135 = .ok (.iload 5, 2) := by decide +kernel
theorem dX11_findTimes_137 : decode cX11_findTimes 137 = .ok (.iconst 1, 1) := by decide +kernel
theorem dX11_findTimes_138 : decode cX11_findTimes 138 = .ok (.iload 8, 2) := by decide +kernel
theorem dX11_findTimes_140 : decode cX11_findTimes 140 = .ok (.ishl, 1) := by decide +kernel
theorem dX11_findTimes_141 : decode cX11_findTimes 141 = .ok (.ior, 1) := by decide +kernel
theorem dX11_findTimes_142 : decode cX11_findTimes 142 = .ok (.invokestatic 210, 3) := by decide +kernel
theorem dX11_findTimes_145 : decode cX11_findTimes 145 = .ok (.iaload, 1) := by decide +kernel
theorem dX11_findTimes_146 : decode cX11_findTimes 146 = .ok (.iadd, 1) := by decide +kernel
theorem dX11_findTimes_147 : decode cX11_findTimes 147 = .ok (.invokestatic 152, 3) := by decide +kernel
theorem dX11_findTimes_150 : decode cX11_findTimes 150 = .ok (.iastore, 1) := by decide +kernel
theorem dX11_findTimes_151 : decode cX11_findTimes 151 = .ok (.iinc 7 1, 3) := by decide +kernel
theorem dX11_findTimes_154 : decode cX11_findTimes 154 = .ok (.goto (-119), 3) := by decide +kernel
theorem dX11_findTimes_157 : decode cX11_findTimes 157 = .ok (.iconst 0, 1) := by decide +kernel
theorem dX11_findTimes_158 : decode cX11_findTimes 158 = .ok (.istore 7, 2) := by decide +kernel
theorem dX11_findTimes_160 : decode cX11_findTimes 160 = .ok (.iload 7, 2) := by decide +kernel
theorem dX11_findTimes_162 : decode cX11_findTimes 162 = .ok (.aload_n 0, 1) := by decide +kernel
theorem dX11_findTimes_163 : decode cX11_findTimes 163 = .ok (.getfield 118, 3) := by decide +kernel
theorem dX11_findTimes_166 : decode cX11_findTimes 166 = .ok (.if_icmp .ge 101, 3) := by decide +kernel
theorem dX11_findTimes_169 : decode cX11_findTimes 169 = .ok (.iload 6, 2) := by decide +kernel
theorem dX11_findTimes_171 : decode cX11_findTimes 171 = .ok (.ifCond .ne 96, 3) := by decide +kernel
theorem dX11_findTimes_174 : decode cX11_findTimes 174 = .ok (.iconst 0, 1) := by decide +kernel
theorem dX11_findTimes_175 : decode cX11_findTimes 175 = .ok (.istore 8, 2) := by decide +kernel
theorem dX11_findTimes_177 : decode cX11_findTimes 177 = .ok (.iload 8, 2) := by decide +kernel
theorem dX11_findTimes_179 : decode cX11_findTimes 179 = .ok (.aload_n 0, 1) := by decide +kernel
theorem dX11_findTimes_180 : decode cX11_findTimes 180 = .ok (.getfield 125, 3) := by decide +kernel
theorem dX11_findTimes_183 : decode cX11_findTimes 183 = .ok (.if_icmp .ge 78, 3) := by decide +kernel
theorem dX11_findTimes_186 : decode cX11_findTimes 186 = .ok (.aload_n 0, 1) := by decide +kernel
theorem dX11_findTimes_187 : decode cX11_findTimes 187 = .ok (.iload 8, 2) := by decide +kernel
theorem dX11_findTimes_189 : decode cX11_findTimes 189 = .ok (.iload_n 2, 1) := by decide +kernel
theorem dX11_findTimes_190 : decode cX11_findTimes 190 = .ok (.iload_n 3, 1) := by decide +kernel
theorem dX11_findTimes_191 : decode cX11_findTimes 191 = .ok (.invokevirtual 148, 3) := by decide +kernel
theorem dX11_findTimes_194 : decode cX11_findTimes 194 = .ok (.ifCond .eq 61, 3) := by decide +kernel
theorem dX11_findTimes_197 : decode cX11_findTimes 197 = .ok (.aload_n 0, 1) := by decide +kernel
theorem dX11_findTimes_198 : decode cX11_findTimes 198 = .ok (.aload 4, 2) := by decide +kernel
theorem dX11_findTimes_200 : decode cX11_findTimes 200 = .ok (.iload 5, 2) := by decide +kernel
theorem dX11_findTimes_202 : decode cX11_findTimes 202 = .ok (.aload_n 0, 1) := by decide +kernel
theorem dX11_findTimes_203 : decode cX11_findTimes 203 = .ok (.getfield 16, 3) := by decide +kernel
theorem dX11_findTimes_206 : decode cX11_findTimes 206 = .ok (.iload 8, 2) := by decide +kernel
theorem dX11_findTimes_208 : decode cX11_findTimes 208 = .ok (.iaload, 1) := by decide +kernel
theorem dX11_findTimes_209 : decode cX11_findTimes 209 = .ok (.aload_n 0, 1) := by decide +kernel
theorem dX11_findTimes_210 : decode cX11_findTimes 210 = .ok (.getfield 19, 3) := by decide +kernel
theorem dX11_findTimes_213 : decode cX11_findTimes 213 = .ok (.iload 8, 2) := by decide +kernel
theorem dX11_findTimes_215 : decode cX11_findTimes 215 = .ok (.iaload, 1) := by decide +kernel
theorem dX11_findTimes_216 : decode cX11_findTimes 216 = .ok (.aload_n 0, 1) := by decide +kernel
theorem dX11_findTimes_217 : decode cX11_findTimes 217 = .ok (.getfield 22, 3) := by decide +kernel
theorem dX11_findTimes_220 : decode cX11_findTimes 220 = .ok (.iload 8, 2) := by decide +kernel
theorem dX11_findTimes_222 : decode cX11_findTimes 222 = .ok (.iaload, 1) := by decide +kernel
theorem dX11_findTimes_223 : decode cX11_findTimes 223 = .ok (.invokevirtual 213, 3) := by decide +kernel
theorem dX11_findTimes_226 : decode cX11_findTimes 226 = .ok (.aload_n 0, 1) := by decide +kernel
theorem dX11_findTimes_227 : decode cX11_findTimes 227 = .ok (.aload 4, 2) := by decide +kernel
theorem dX11_findTimes_229 : decode cX11_findTimes 229 = .ok (.iload 5, 2) := by decide +kernel
theorem dX11_findTimes_231 : decode cX11_findTimes 231 = .ok (.aload_n 0, 1) := by decide +kernel
theorem dX11_findTimes_232 : decode cX11_findTimes 232 = .ok (.getfield 19, 3) := by decide +kernel
theorem dX11_findTimes_235 : decode cX11_findTimes 235 = .ok (.iload 8, 2) := by decide +kernel
theorem dX11_findTimes_237 : decode cX11_findTimes 237 = .ok (.iaload, 1) := by decide +kernel
theorem dX11_findTimes_238 : decode cX11_findTimes 238 = .ok (.aload_n 0, 1) := by decide +kernel
theorem dX11_findTimes_239 : decode cX11_findTimes 239 = .ok (.getfield 16, 3) := by decide +kernel
theorem dX11_findTimes_242 : decode cX11_findTimes 242 = .ok (.iload 8, 2) := by decide +kernel
theorem dX11_findTimes_244 : decode cX11_findTimes 244 = .ok (.iaload, 1) := by decide +kernel
theorem dX11_findTimes_245 : decode cX11_findTimes 245 = .ok (.aload_n 0, 1) := by decide +kernel
theorem dX11_findTimes_246 : decode cX11_findTimes 246 = .ok (.getfield 22, 3) := by decide +kernel
theorem dX11_findTimes_249 : decode cX11_findTimes 249 = .ok (.iload 8, 2) := by decide +kernel
theorem dX11_findTimes_251 : decode cX11_findTimes 251 = .ok (.iaload, 1) := by decide +kernel
theorem dX11_findTimes_252 : decode cX11_findTimes 252 = .ok (.invokevirtual 213, 3) := by decide +kernel
theorem dX11_findTimes_255 : decode cX11_findTimes 255 = .ok (.iinc 8 1, 3) := by decide +kernel
theorem dX11_findTimes_258 : decode cX11_findTimes 258 = .ok (.goto (-81), 3) := by decide +kernel
theorem dX11_findTimes_261 : decode cX11_findTimes 261 = .ok (.iinc 7 1, 3) := by decide +kernel
theorem dX11_findTimes_264 : decode cX11_findTimes 264 = .ok (.goto (-104), 3) := by decide +kernel
theorem dX11_findTimes_267 : decode cX11_findTimes 267 = .ok (.iinc 5 (-1), 3) := by decide +kernel
theorem dX11_findTimes_270 : decode cX11_findTimes 270 = .ok (.goto (-252), 3) := by decide +kernel
theorem dX11_findTimes_273 : decode cX11_findTimes 273 = .ok (.return_, 1) := by decide +kernel
theorem dX11_comesNearer_0 : decode cX11_comesNearer 0 = .ok (.aload_n 1, 1) := by decide +kernel
theorem dX11_comesNearer_1 : decode cX11_comesNearer 1 = .ok (.iload_n 3, 1) := by decide +kernel
theorem dX11_comesNearer_2 : decode cX11_comesNearer 2 = .ok (.baload, 1) := by decide +kernel
theorem dX11_comesNearer_3 : decode cX11_comesNearer 3 = .ok (.ifCond .eq 40, 3) := by decide +kernel
theorem dX11_comesNearer_6 : decode cX11_comesNearer 6 = .ok (.aload_n 0, 1) := by decide +kernel
theorem dX11_comesNearer_7 : decode cX11_comesNearer 7 = .ok (.getfield 102, 3) := by decide +kernel
theorem dX11_comesNearer_10 : decode cX11_comesNearer 10 = .ok (.iload_n 3, 1) := by decide +kernel
theorem dX11_comesNearer_11 : decode cX11_comesNearer 11 = .ok (.iload_n 2, 1) := by decide +kernel
theorem dX11_comesNearer_12 : decode cX11_comesNearer 12 = .ok (.invokestatic 210, 3) := by decide +kernel
theorem dX11_comesNearer_15 : decode cX11_comesNearer 15 = .ok (.aload_n 0, 1) := by decide +kernel
theorem dX11_comesNearer_16 : decode cX11_comesNearer 16 = .ok (.getfield 102, 3) := by decide +kernel
theorem dX11_comesNearer_19 : decode cX11_comesNearer 19 = .ok (.iload_n 3, 1) := by decide +kernel
theorem dX11_comesNearer_20 : decode cX11_comesNearer 20 = .ok (.iload_n 2, 1) := by decide +kernel
theorem dX11_comesNearer_21 : decode cX11_comesNearer 21 = .ok (.invokestatic 210, 3) := by decide +kernel
theorem dX11_comesNearer_24 : decode cX11_comesNearer 24 = .ok (.iaload, 1) := by decide +kernel
theorem dX11_comesNearer_25 : decode cX11_comesNearer 25 = .ok (.iload 5, 2) := by decide +kernel
theorem dX11_comesNearer_27 : decode cX11_comesNearer 27 = .ok (.aload_n 0, 1) := by decide +kernel
theorem dX11_comesNearer_28 : decode cX11_comesNearer 28 = .ok (.getfield 102, 3) := by decide +kernel
theorem dX11_comesNearer_31 : decode cX11_comesNearer 31 = .ok (.iload 4, 2) := by decide +kernel
theorem dX11_comesNearer_33 : decode cX11_comesNearer 33 = .ok (.iload_n 2, 1) := by decide +kernel
theorem dX11_comesNearer_34 : decode cX11_comesNearer 34 = .ok (.invokestatic 210, 3) := by decide +kernel
theorem dX11_comesNearer_37 : decode cX11_comesNearer 37 = .ok (.iaload, 1) := by decide +kernel
theorem dX11_comesNearer_38 : decode cX11_comesNearer 38 = .ok (.iadd, 1) := by decide +kernel
theorem dX11_comesNearer_39 : decode cX11_comesNearer 39 = .ok (.invokestatic 152, 3) := by decide +kernel
theorem dX11_comesNearer_42 : decode cX11_comesNearer 42 = .ok (.iastore, 1) := by decide +kernel
theorem dX11_comesNearer_43 : decode cX11_comesNearer 43 = .ok (.return_, 1) := by decide +kernel
theorem dX11_meets_0 : decode cX11_meets 0 = .ok (.aload_n 0, 1) := by decide +kernel
theorem dX11_meets_1 : decode cX11_meets 1 = .ok (.getfield 105, 3) := by decide +kernel
theorem dX11_meets_4 : decode cX11_meets 4 = .ok (.iload_n 1, 1) := by decide +kernel
theorem dX11_meets_5 : decode cX11_meets 5 = .ok (.baload, 1) := by decide +kernel
theorem dX11_meets_6 : decode cX11_meets 6 = .ok (.ifCond .ne 30, 3) := by decide +kernel
theorem dX11_meets_9 : decode cX11_meets 9 = .ok (.aload_n 0, 1) := by decide +kernel
theorem dX11_meets_10 : decode cX11_meets 10 = .ok (.getfield 105, 3) := by decide +kernel
theorem dX11_meets_13 : decode cX11_meets 13 = .ok (.iload_n 1, 1) := by decide +kernel
theorem dX11_meets_14 : decode cX11_meets 14 = .ok (.iconst 1, 1) := by decide +kernel
theorem dX11_meets_15 : decode cX11_meets 15 = .ok (.bastore, 1) := by decide +kernel
theorem dX11_meets_16 : decode cX11_meets 16 = .ok (.aload_n 0, 1) := by decide +kernel
theorem dX11_meets_17 : decode cX11_meets 17 = .ok (.getfield 108, 3) := by decide +kernel
theorem dX11_meets_20 : decode cX11_meets 20 = .ok (.aload_n 0, 1) := by decide +kernel
theorem dX11_meets_21 : decode cX11_meets 21 = .ok (.getfield 217, 3) := by decide +kernel
theorem dX11_meets_24 : decode cX11_meets 24 = .ok (.iload_n 1, 1) := by decide +kernel
theorem dX11_meets_25 : decode cX11_meets 25 = .ok (.iastore, 1) := by decide +kernel
theorem dX11_meets_26 : decode cX11_meets 26 = .ok (.aload_n 0, 1) := by decide +kernel
theorem dX11_meets_27 : decode cX11_meets 27 = .ok (.dup, 1) := by decide +kernel
theorem dX11_meets_28 : decode cX11_meets 28 = .ok (.getfield 217, 3) := by decide +kernel
theorem dX11_meets_31 : decode cX11_meets 31 = .ok (.iconst 1, 1) := by decide +kernel
theorem dX11_meets_32 : decode cX11_meets 32 = .ok (.iadd, 1) := by decide +kernel
theorem dX11_meets_33 : decode cX11_meets 33 = .ok (.putfield 217, 3) := by decide +kernel
theorem dX11_meets_36 : decode cX11_meets 36 = .ok (.return_, 1) := by decide +kernel
theorem dX11_findMoments_0 : decode cX11_findMoments 0 = .ok (.iconst 0, 1) := by decide +kernel
theorem dX11_findMoments_1 : decode cX11_findMoments 1 = .ok (.istore 6, 2) := by decide +kernel
theorem dX11_findMoments_3 : decode cX11_findMoments 3 = .ok (.iload 6, 2) := by decide +kernel
theorem dX11_findMoments_5 : decode cX11_findMoments 5 = .ok (.ldc 101, 2) := by decide +kernel
theorem dX11_findMoments_7 : decode cX11_findMoments 7 = .ok (.if_icmp .ge 17, 3) := by decide +kernel
theorem dX11_findMoments_10 : decode cX11_findMoments 10 = .ok (.aload_n 0, 1) := by decide +kernel
theorem dX11_findMoments_11 : decode cX11_findMoments 11 = .ok (.getfield 105, 3) := by decide +kernel
theorem dX11_findMoments_14 : decode cX11_findMoments 14 = .ok (.iload 6, 2) := by decide +kernel
theorem dX11_findMoments_16 : decode cX11_findMoments 16 = .ok (.iconst 0, 1) := by decide +kernel
theorem dX11_findMoments_17 : decode cX11_findMoments 17 = .ok (.bastore, 1) := by decide +kernel
theorem dX11_findMoments_18 : decode cX11_findMoments 18 = .ok (.iinc 6 1, 3) := by decide +kernel
theorem dX11_findMoments_21 : decode cX11_findMoments 21 = .ok (.goto (-18), 3) := by decide +kernel
theorem dX11_findMoments_24 : decode cX11_findMoments 24 = .ok (.aload_n 0, 1) := by decide +kernel
theorem dX11_findMoments_25 : decode cX11_findMoments 25 = .ok (.iconst 0, 1) := by decide +kernel
theorem dX11_findMoments_26 : decode cX11_findMoments 26 = .ok (.putfield 217, 3) := by decide +kernel
theorem dX11_findMoments_29 : decode cX11_findMoments 29 = .ok (.aload_n 0, 1) := by decide +kernel
theorem dX11_findMoments_30 : decode cX11_findMoments 30 = .ok (.iload_n 2, 1) := by decide +kernel
theorem dX11_findMoments_31 : decode cX11_findMoments 31 = .ok (.iload_n 3, 1) := by decide +kernel
theorem dX11_findMoments_32 : decode cX11_findMoments 32 = .ok (.invokestatic 210, 3) := by decide +kernel
theorem dX11_findMoments_35 : decode cX11_findMoments 35 = .ok (.invokevirtual 220, 3) := by decide +kernel
theorem dX11_findMoments_38 : decode cX11_findMoments 38 = .ok (.iconst 0, 1) := by decide +kernel
theorem dX11_findMoments_39 : decode cX11_findMoments 39 = .ok (.istore 6, 2) := by decide +kernel
theorem dX11_findMoments_41 : decode cX11_findMoments 41 = .ok (.iload 6, 2) := by decide +kernel
theorem dX11_findMoments_43 : decode cX11_findMoments 43 = .ok (.aload_n 0, 1) := by decide +kernel
theorem dX11_findMoments_44 : decode cX11_findMoments 44 = .ok (.getfield 217, 3) := by decide +kernel
theorem dX11_findMoments_47 : decode cX11_findMoments 47 = .ok (.if_icmp .ge 165, 3) := by decide +kernel
theorem dX11_findMoments_50 : decode cX11_findMoments 50 = .ok (.aload_n 0, 1) := by decide +kernel
theorem dX11_findMoments_51 : decode cX11_findMoments 51 = .ok (.getfield 108, 3) := by decide +kernel
theorem dX11_findMoments_54 : decode cX11_findMoments 54 = .ok (.iload 6, 2) := by decide +kernel
theorem dX11_findMoments_56 : decode cX11_findMoments 56 = .ok (.iaload, 1) := by decide +kernel
theorem dX11_findMoments_57 : decode cX11_findMoments 57 = .ok (.bipush 8, 2) := by decide +kernel
theorem dX11_findMoments_59 : decode cX11_findMoments 59 = .ok (.irem, 1) := by decide +kernel
theorem dX11_findMoments_60 : decode cX11_findMoments 60 = .ok (.istore 7, 2) := by decide +kernel
theorem dX11_findMoments_62 : decode cX11_findMoments 62 = .ok (.aload_n 0, 1) := by decide +kernel
theorem dX11_findMoments_63 : decode cX11_findMoments 63 = .ok (.getfield 108, 3) := by decide +kernel
theorem dX11_findMoments_66 : decode cX11_findMoments 66 = .ok (.iload 6, 2) := by decide +kernel
theorem dX11_findMoments_68 : decode cX11_findMoments 68 = .ok (.iaload, 1) := by decide +kernel
theorem dX11_findMoments_69 : decode cX11_findMoments 69 = .ok (.bipush 8, 2) := by decide +kernel
theorem dX11_findMoments_71 : decode cX11_findMoments 71 = .ok (.idiv, 1) := by decide +kernel
theorem dX11_findMoments_72 : decode cX11_findMoments 72 = .ok (.istore 8, 2) := by decide +kernel
theorem dX11_findMoments_74 : decode cX11_findMoments 74 = .ok (.aload_n 0, 1) := by decide +kernel
theorem dX11_findMoments_75 : decode cX11_findMoments 75 = .ok (.iload_n 1, 1) := by decide +kernel
theorem dX11_findMoments_76 : decode cX11_findMoments 76 = .ok (.iload 8, 2) := by decide +kernel
theorem dX11_findMoments_78 : decode cX11_findMoments 78 = .ok (.invokevirtual 203, 3) := by decide +kernel
theorem dX11_findMoments_81 : decode cX11_findMoments 81 = .ok (.ifCond .eq 6, 3) := by decide +kernel
theorem dX11_findMoments_84 : decode cX11_findMoments 84 = .ok (.goto 122, 3) := by decide +kernel
theorem dX11_findMoments_87 : decode cX11_findMoments 87 = .ok (.aload_n 0, 1) := by decide +kernel
theorem dX11_findMoments_88 : decode cX11_findMoments 88 = .ok (.iload_n 1, 1) := by decide +kernel
theorem dX11_findMoments_89 : decode cX11_findMoments 89 = .ok (.iload 7, 2) := by decide +kernel
theorem dX11_findMoments_91 : decode cX11_findMoments 91 = .ok (.iload 8, 2) := by decide +kernel
theorem dX11_findMoments_93 : decode cX11_findMoments 93 = .ok (.iload 4, 2) := by decide +kernel
theorem dX11_findMoments_95 : decode cX11_findMoments 95 = .ok (.invokevirtual 206, 3) := by decide +kernel
theorem dX11_findMoments_98 : decode cX11_findMoments 98 = .ok (.istore 9, 2) := by decide +kernel
theorem dX11_findMoments_100 : decode cX11_findMoments 100 = .ok (.iload 9, 2) := by decide +kernel
theorem dX11_findMoments_102 : decode cX11_findMoments 102 = .ok (.ifCond .lt 22, 3) := by decide +kernel
theorem dX11_findMoments_105 : decode cX11_findMoments 105 = .ok (.aload_n 0, 1) := by decide +kernel
theorem dX11_findMoments_106 : decode cX11_findMoments 106 = .ok (.iload 7, 2) := by decide +kernel
theorem dX11_findMoments_108 : decode cX11_findMoments 108 = .ok (.iload 8, 2) := by decide +kernel
theorem dX11_findMoments_110 : decode cX11_findMoments 110 = .ok (.iconst 1, 1) := by decide +kernel
theorem dX11_findMoments_111 : decode cX11_findMoments 111 = .ok (.iload 9, 2) := by decide +kernel
theorem dX11_findMoments_113 : decode cX11_findMoments 113 = .ok (.ishl, 1) := by decide +kernel
theorem dX11_findMoments_114 : decode cX11_findMoments 114 = .ok (.ior, 1) := by decide +kernel
theorem dX11_findMoments_115 : decode cX11_findMoments 115 = .ok (.invokestatic 210, 3) := by decide +kernel
theorem dX11_findMoments_118 : decode cX11_findMoments 118 = .ok (.invokevirtual 220, 3) := by decide +kernel
theorem dX11_findMoments_121 : decode cX11_findMoments 121 = .ok (.goto 85, 3) := by decide +kernel
theorem dX11_findMoments_124 : decode cX11_findMoments 124 = .ok (.iconst 0, 1) := by decide +kernel
theorem dX11_findMoments_125 : decode cX11_findMoments 125 = .ok (.istore 10, 2) := by decide +kernel
theorem dX11_findMoments_127 : decode cX11_findMoments 127 = .ok (.iload 10, 2) := by decide +kernel
theorem dX11_findMoments_129 : decode cX11_findMoments 129 = .ok (.aload_n 0, 1) := by decide +kernel
theorem dX11_findMoments_130 : decode cX11_findMoments 130 = .ok (.getfield 125, 3) := by decide +kernel
theorem dX11_findMoments_133 : decode cX11_findMoments 133 = .ok (.if_icmp .ge 73, 3) := by decide +kernel
theorem dX11_findMoments_136 : decode cX11_findMoments 136 = .ok (.aload_n 0, 1) := by decide +kernel
theorem dX11_findMoments_137 : decode cX11_findMoments 137 = .ok (.iload 10, 2) := by decide +kernel
theorem dX11_findMoments_139 : decode cX11_findMoments 139 = .ok (.iload 4, 2) := by decide +kernel
theorem dX11_findMoments_141 : decode cX11_findMoments 141 = .ok (.iload 5, 2) := by decide +kernel
theorem dX11_findMoments_143 : decode cX11_findMoments 143 = .ok (.invokevirtual 148, 3) := by decide +kernel
theorem dX11_findMoments_146 : decode cX11_findMoments 146 = .ok (.ifCond .eq 54, 3) := by decide +kernel
theorem dX11_findMoments_149 : decode cX11_findMoments 149 = .ok (.aload_n 0, 1) := by decide +kernel
theorem dX11_findMoments_150 : decode cX11_findMoments 150 = .ok (.getfield 16, 3) := by decide +kernel
theorem dX11_findMoments_153 : decode cX11_findMoments 153 = .ok (.iload 10, 2) := by decide +kernel
theorem dX11_findMoments_155 : decode cX11_findMoments 155 = .ok (.iaload, 1) := by decide +kernel
theorem dX11_findMoments_156 : decode cX11_findMoments 156 = .ok (.iload 7, 2) := by decide +kernel
theorem dX11_findMoments_158 : decode cX11_findMoments 158 = .ok (.if_icmp .eq 15, 3) := by decide +kernel
theorem dX11_findMoments_161 : decode cX11_findMoments 161 = .ok (.aload_n 0, 1) := by decide +kernel
theorem dX11_findMoments_162 : decode cX11_findMoments 162 = .ok (.getfield 19, 3) := by decide +kernel
theorem dX11_findMoments_165 : decode cX11_findMoments 165 = .ok (.iload 10, 2) := by decide +kernel
theorem dX11_findMoments_167 : decode cX11_findMoments 167 = .ok (.iaload, 1) := by decide +kernel
theorem dX11_findMoments_168 : decode cX11_findMoments 168 = .ok (.iload 7, 2) := by decide +kernel
theorem dX11_findMoments_170 : decode cX11_findMoments 170 = .ok (.if_icmp .ne 30, 3) := by decide +kernel
theorem dX11_findMoments_173 : decode cX11_findMoments 173 = .ok (.aload_n 0, 1) := by decide +kernel
theorem dX11_findMoments_174 : decode cX11_findMoments 174 = .ok (.aload_n 0, 1) := by decide +kernel
theorem dX11_findMoments_175 : decode cX11_findMoments 175 = .ok (.getfield 16, 3) := by decide +kernel
theorem dX11_findMoments_178 : decode cX11_findMoments 178 = .ok (.iload 10, 2) := by decide +kernel
theorem dX11_findMoments_180 : decode cX11_findMoments 180 = .ok (.iaload, 1) := by decide +kernel
theorem dX11_findMoments_181 : decode cX11_findMoments 181 = .ok (.aload_n 0, 1) := by decide +kernel
theorem dX11_findMoments_182 : decode cX11_findMoments 182 = .ok (.getfield 19, 3) := by decide +kernel
theorem dX11_findMoments_185 : decode cX11_findMoments 185 = .ok (.iload 10, 2) := by decide +kernel
theorem dX11_findMoments_187 : decode cX11_findMoments 187 = .ok (.iaload, 1) := by decide +kernel
theorem dX11_findMoments_188 : decode cX11_findMoments 188 = .ok (.iadd, 1) := by decide +kernel
theorem dX11_findMoments_189 : decode cX11_findMoments 189 = .ok (.iload 7, 2) := by decide +kernel
theorem dX11_findMoments_191 : decode cX11_findMoments 191 = .ok (.isub, 1) := by decide +kernel
theorem dX11_findMoments_192 : decode cX11_findMoments 192 = .ok (.iload 8, 2) := by decide +kernel
theorem dX11_findMoments_194 : decode cX11_findMoments 194 = .ok (.invokestatic 210, 3) := by decide +kernel
theorem dX11_findMoments_197 : decode cX11_findMoments 197 = .ok (.invokevirtual 220, 3) := by decide +kernel
theorem dX11_findMoments_200 : decode cX11_findMoments 200 = .ok (.iinc 10 1, 3) := by decide +kernel
theorem dX11_findMoments_203 : decode cX11_findMoments 203 = .ok (.goto (-76), 3) := by decide +kernel
theorem dX11_findMoments_206 : decode cX11_findMoments 206 = .ok (.iinc 6 1, 3) := by decide +kernel
theorem dX11_findMoments_209 : decode cX11_findMoments 209 = .ok (.goto (-168), 3) := by decide +kernel
theorem dX11_findMoments_212 : decode cX11_findMoments 212 = .ok (.return_, 1) := by decide +kernel
theorem dX11_allHeard_0 : decode cX11_allHeard 0 = .ok (.iconst 0, 1) := by decide +kernel
theorem dX11_allHeard_1 : decode cX11_allHeard 1 = .ok (.istore_n 1, 1) := by decide +kernel
theorem dX11_allHeard_2 : decode cX11_allHeard 2 = .ok (.iconst 0, 1) := by decide +kernel
theorem dX11_allHeard_3 : decode cX11_allHeard 3 = .ok (.istore_n 2, 1) := by decide +kernel
theorem dX11_allHeard_4 : decode cX11_allHeard 4 = .ok (.iload_n 2, 1) := by decide +kernel
theorem dX11_allHeard_5 : decode cX11_allHeard 5 = .ok (.aload_n 0, 1) := by decide +kernel
theorem dX11_allHeard_6 : decode cX11_allHeard 6 = .ok (.getfield 217, 3) := by decide +kernel
theorem dX11_allHeard_9 : decode cX11_allHeard 9 = .ok (.if_icmp .ge 21, 3) := by decide +kernel
theorem dX11_allHeard_12 : decode cX11_allHeard 12 = .ok (.iload_n 1, 1) := by decide +kernel
theorem dX11_allHeard_13 : decode cX11_allHeard 13 = .ok (.aload_n 0, 1) := by decide +kernel
theorem dX11_allHeard_14 : decode cX11_allHeard 14 = .ok (.getfield 108, 3) := by decide +kernel
theorem dX11_allHeard_17 : decode cX11_allHeard 17 = .ok (.iload_n 2, 1) := by decide +kernel
theorem dX11_allHeard_18 : decode cX11_allHeard 18 = .ok (.iaload, 1) := by decide +kernel
theorem dX11_allHeard_19 : decode cX11_allHeard 19 = .ok (.bipush 8, 2) := by decide +kernel
theorem dX11_allHeard_21 : decode cX11_allHeard 21 = .ok (.idiv, 1) := by decide +kernel
theorem dX11_allHeard_22 : decode cX11_allHeard 22 = .ok (.ior, 1) := by decide +kernel
theorem dX11_allHeard_23 : decode cX11_allHeard 23 = .ok (.istore_n 1, 1) := by decide +kernel
theorem dX11_allHeard_24 : decode cX11_allHeard 24 = .ok (.iinc 2 1, 3) := by decide +kernel
theorem dX11_allHeard_27 : decode cX11_allHeard 27 = .ok (.goto (-23), 3) := by decide +kernel
theorem dX11_allHeard_30 : decode cX11_allHeard 30 = .ok (.iload_n 1, 1) := by decide +kernel
theorem dX11_allHeard_31 : decode cX11_allHeard 31 = .ok (.ireturn, 1) := by decide +kernel
theorem dX11_check_0 : decode cX11_check 0 = .ok (.aload_n 0, 1) := by decide +kernel
theorem dX11_check_1 : decode cX11_check 1 = .ok (.iload_n 1, 1) := by decide +kernel
theorem dX11_check_2 : decode cX11_check 2 = .ok (.invokevirtual 191, 3) := by decide +kernel
theorem dX11_check_5 : decode cX11_check 5 = .ok (.ifCond .eq 28, 3) := by decide +kernel
theorem dX11_check_8 : decode cX11_check 8 = .ok (.aload_n 0, 1) := by decide +kernel
theorem dX11_check_9 : decode cX11_check 9 = .ok (.iload_n 2, 1) := by decide +kernel
theorem dX11_check_10 : decode cX11_check 10 = .ok (.invokevirtual 137, 3) := by decide +kernel
theorem dX11_check_13 : decode cX11_check 13 = .ok (.ifCond .eq 20, 3) := by decide +kernel
theorem dX11_check_16 : decode cX11_check 16 = .ok (.iload_n 3, 1) := by decide +kernel
theorem dX11_check_17 : decode cX11_check 17 = .ok (.invokestatic 144, 3) := by decide +kernel
theorem dX11_check_20 : decode cX11_check 20 = .ok (.ifCond .eq 13, 3) := by decide +kernel
theorem dX11_check_23 : decode cX11_check 23 = .ok (.iload 5, 2) := by decide +kernel
theorem dX11_check_25 : decode cX11_check 25 = .ok (.iconst 0, 1) := by decide +kernel
theorem dX11_check_26 : decode cX11_check 26 = .ok (.iconst 3, 1) := by decide +kernel
theorem dX11_check_27 : decode cX11_check 27 = .ok (.invokestatic 121, 3) := by decide +kernel
theorem dX11_check_30 : decode cX11_check 30 = .ok (.ifCond .ne 10, 3) := by decide +kernel
theorem dX11_check_33 : decode cX11_check 33 = .ok (.aload_n 0, 1) := by decide +kernel
theorem dX11_check_34 : decode cX11_check 34 = .ok (.ldc 131, 2) := by decide +kernel
theorem dX11_check_36 : decode cX11_check 36 = .ok (.invokevirtual 132, 3) := by decide +kernel
theorem dX11_check_39 : decode cX11_check 39 = .ok (.ireturn, 1) := by decide +kernel
theorem dX11_check_40 : decode cX11_check 40 = .ok (.aload_n 0, 1) := by decide +kernel
theorem dX11_check_41 : decode cX11_check 41 = .ok (.iload_n 1, 1) := by decide +kernel
theorem dX11_check_42 : decode cX11_check 42 = .ok (.iload_n 2, 1) := by decide +kernel
theorem dX11_check_43 : decode cX11_check 43 = .ok (.iconst 0, 1) := by decide +kernel
theorem dX11_check_44 : decode cX11_check 44 = .ok (.iload_n 3, 1) := by decide +kernel
theorem dX11_check_45 : decode cX11_check 45 = .ok (.iload 4, 2) := by decide +kernel
theorem dX11_check_47 : decode cX11_check 47 = .ok (.invokevirtual 224, 3) := by decide +kernel
theorem dX11_check_50 : decode cX11_check 50 = .ok (.iload 5, 2) := by decide +kernel
theorem dX11_check_52 : decode cX11_check 52 = .ok (.ifCond .ne 8, 3) := by decide +kernel
theorem dX11_check_55 : decode cX11_check 55 = .ok (.aload_n 0, 1) := by decide +kernel
theorem dX11_check_56 : decode cX11_check 56 = .ok (.getfield 217, 3) := by decide +kernel
theorem dX11_check_59 : decode cX11_check 59 = .ok (.ireturn, 1) := by decide +kernel
theorem dX11_check_60 : decode cX11_check 60 = .ok (.iload 5, 2) := by decide +kernel
theorem dX11_check_62 : decode cX11_check 62 = .ok (.iconst 3, 1) := by decide +kernel
theorem dX11_check_63 : decode cX11_check 63 = .ok (.if_icmp .ne 8, 3) := by decide +kernel
theorem dX11_check_66 : decode cX11_check 66 = .ok (.aload_n 0, 1) := by decide +kernel
theorem dX11_check_67 : decode cX11_check 67 = .ok (.invokevirtual 228, 3) := by decide +kernel
theorem dX11_check_70 : decode cX11_check 70 = .ok (.ireturn, 1) := by decide +kernel
theorem dX11_check_71 : decode cX11_check 71 = .ok (.aload_n 0, 1) := by decide +kernel
theorem dX11_check_72 : decode cX11_check 72 = .ok (.iload_n 1, 1) := by decide +kernel
theorem dX11_check_73 : decode cX11_check 73 = .ok (.iload_n 3, 1) := by decide +kernel
theorem dX11_check_74 : decode cX11_check 74 = .ok (.iload 4, 2) := by decide +kernel
theorem dX11_check_76 : decode cX11_check 76 = .ok (.invokevirtual 231, 3) := by decide +kernel
theorem dX11_check_79 : decode cX11_check 79 = .ok (.iconst 0, 1) := by decide +kernel
theorem dX11_check_80 : decode cX11_check 80 = .ok (.istore 6, 2) := by decide +kernel
theorem dX11_check_82 : decode cX11_check 82 = .ok (.iconst 0, 1) := by decide +kernel
theorem dX11_check_83 : decode cX11_check 83 = .ok (.istore 7, 2) := by decide +kernel
theorem dX11_check_85 : decode cX11_check 85 = .ok (.iload 7, 2) := by decide +kernel
theorem dX11_check_87 : decode cX11_check 87 = .ok (.aload_n 0, 1) := by decide +kernel
theorem dX11_check_88 : decode cX11_check 88 = .ok (.getfield 217, 3) := by decide +kernel
theorem dX11_check_91 : decode cX11_check 91 = .ok (.if_icmp .ge 110, 3) := by decide +kernel
theorem dX11_check_94 : decode cX11_check 94 = .ok (.aload_n 0, 1) := by decide +kernel
theorem dX11_check_95 : decode cX11_check 95 = .ok (.getfield 108, 3) := by decide +kernel
theorem dX11_check_98 : decode cX11_check 98 = .ok (.iload 7, 2) := by decide +kernel
theorem dX11_check_100 : decode cX11_check 100 = .ok (.iaload, 1) := by decide +kernel
theorem dX11_check_101 : decode cX11_check 101 = .ok (.bipush 8, 2) := by decide +kernel
theorem dX11_check_103 : decode cX11_check 103 = .ok (.irem, 1) := by decide +kernel
theorem dX11_check_104 : decode cX11_check 104 = .ok (.istore 8, 2) := by decide +kernel
theorem dX11_check_106 : decode cX11_check 106 = .ok (.aload_n 0, 1) := by decide +kernel
theorem dX11_check_107 : decode cX11_check 107 = .ok (.getfield 108, 3) := by decide +kernel
theorem dX11_check_110 : decode cX11_check 110 = .ok (.iload 7, 2) := by decide +kernel
theorem dX11_check_112 : decode cX11_check 112 = .ok (.iaload, 1) := by decide +kernel
theorem dX11_check_113 : decode cX11_check 113 = .ok (.bipush 8, 2) := by decide +kernel
theorem dX11_check_115 : decode cX11_check 115 = .ok (.idiv, 1) := by decide +kernel
theorem dX11_check_116 : decode cX11_check 116 = .ok (.istore 9, 2) := by decide +kernel
theorem dX11_check_118 : decode cX11_check 118 = .ok (.iload 5, 2) := by decide +kernel
theorem dX11_check_120 : decode cX11_check 120 = .ok (.iconst 1, 1) := by decide +kernel
theorem dX11_check_121 : decode cX11_check 121 = .ok (.if_icmp .ne 28, 3) := by decide +kernel
theorem dX11_check_124 : decode cX11_check 124 = .ok (.aload_n 0, 1) := by decide +kernel
theorem dX11_check_125 : decode cX11_check 125 = .ok (.getfield 102, 3) := by decide +kernel
theorem dX11_check_128 : decode cX11_check 128 = .ok (.aload_n 0, 1) := by decide +kernel
theorem dX11_check_129 : decode cX11_check 129 = .ok (.getfield 108, 3) := by decide +kernel
theorem dX11_check_132 : decode cX11_check 132 = .ok (.iload 7, 2) := by decide +kernel
theorem dX11_check_134 : decode cX11_check 134 = .ok (.iaload, 1) := by decide +kernel
theorem dX11_check_135 : decode cX11_check 135 = .ok (.iaload, 1) := by decide +kernel
theorem dX11_check_136 : decode cX11_check 136 = .ok (.ldc 147, 2) := by decide +kernel
theorem dX11_check_138 : decode cX11_check 138 = .ok (.if_icmp .lt 7, 3) := by decide +kernel
theorem dX11_check_141 : decode cX11_check 141 = .ok (.iconst 1, 1) := by decide +kernel
theorem dX11_check_142 : decode cX11_check 142 = .ok (.goto 36, 3) := by decide +kernel
theorem dX11_check_145 : decode cX11_check 145 = .ok (.iconst 0, 1) := by decide +kernel
theorem dX11_check_146 : decode cX11_check 146 = .ok (.goto 32, 3) := by decide +kernel
theorem dX11_check_149 : decode cX11_check 149 = .ok (.aload_n 0, 1) := by decide +kernel
theorem dX11_check_150 : decode cX11_check 150 = .ok (.iload_n 1, 1) := by decide +kernel
theorem dX11_check_151 : decode cX11_check 151 = .ok (.iload 9, 2) := by decide +kernel
theorem dX11_check_153 : decode cX11_check 153 = .ok (.invokevirtual 203, 3) := by decide +kernel
theorem dX11_check_156 : decode cX11_check 156 = .ok (.ifCond .ne 21, 3) := by decide +kernel
theorem dX11_check_159 : decode cX11_check 159 = .ok (.aload_n 0, 1) := by decide +kernel
theorem dX11_check_160 : decode cX11_check 160 = .ok (.iload_n 1, 1) := by decide +kernel
theorem dX11_check_161 : decode cX11_check 161 = .ok (.iload 8, 2) := by decide +kernel
theorem dX11_check_163 : decode cX11_check 163 = .ok (.iload 9, 2) := by decide +kernel
theorem dX11_check_165 : decode cX11_check 165 = .ok (.iload_n 3, 1) := by decide +kernel
theorem dX11_check_166 : decode cX11_check 166 = .ok (.invokevirtual 235, 3) := by decide +kernel
theorem dX11_check_169 : decode cX11_check 169 = .ok (.iconst 1, 1) := by decide +kernel
theorem dX11_check_170 : decode cX11_check 170 = .ok (.if_icmp .le 7, 3) := by decide +kernel
theorem dX11_check_173 : decode cX11_check 173 = .ok (.iconst 1, 1) := by decide +kernel
theorem dX11_check_174 : decode cX11_check 174 = .ok (.goto 4, 3) := by decide +kernel
theorem dX11_check_177 : decode cX11_check 177 = .ok (.iconst 0, 1) := by decide +kernel
theorem dX11_check_178 : decode cX11_check 178 = .ok (.istore 10, 2) := by decide +kernel
theorem dX11_check_180 : decode cX11_check 180 = .ok (.iload 6, 2) := by decide +kernel
theorem dX11_check_182 : decode cX11_check 182 = .ok (.iload 10, 2) := by decide +kernel
theorem dX11_check_184 : decode cX11_check 184 = .ok (.ifCond .eq 7, 3) := by decide +kernel
theorem dX11_check_187 : decode cX11_check 187 = .ok (.iconst 1, 1) := by decide +kernel
theorem dX11_check_188 : decode cX11_check 188 = .ok (.goto 4, 3) := by decide +kernel
theorem dX11_check_191 : decode cX11_check 191 = .ok (.iconst 0, 1) := by decide +kernel
theorem dX11_check_192 : decode cX11_check 192 = .ok (.iadd, 1) := by decide +kernel
theorem dX11_check_193 : decode cX11_check 193 = .ok (.istore 6, 2) := by decide +kernel
theorem dX11_check_195 : decode cX11_check 195 = .ok (.iinc 7 1, 3) := by decide +kernel
theorem dX11_check_198 : decode cX11_check 198 = .ok (.goto (-113), 3) := by decide +kernel
theorem dX11_check_201 : decode cX11_check 201 = .ok (.iload 6, 2) := by decide +kernel
theorem dX11_check_203 : decode cX11_check 203 = .ok (.ireturn, 1) := by decide +kernel
theorem dX11_canAsk_0 : decode cX11_canAsk 0 = .ok (.aload_n 0, 1) := by decide +kernel
theorem dX11_canAsk_1 : decode cX11_canAsk 1 = .ok (.iload_n 1, 1) := by decide +kernel
theorem dX11_canAsk_2 : decode cX11_canAsk 2 = .ok (.invokevirtual 191, 3) := by decide +kernel
theorem dX11_canAsk_5 : decode cX11_canAsk 5 = .ok (.ifCond .eq 22, 3) := by decide +kernel
theorem dX11_canAsk_8 : decode cX11_canAsk 8 = .ok (.aload_n 0, 1) := by decide +kernel
theorem dX11_canAsk_9 : decode cX11_canAsk 9 = .ok (.iload_n 2, 1) := by decide +kernel
theorem dX11_canAsk_10 : decode cX11_canAsk 10 = .ok (.invokevirtual 137, 3) := by decide +kernel
theorem dX11_canAsk_13 : decode cX11_canAsk 13 = .ok (.ifCond .eq 14, 3) := by decide +kernel
theorem dX11_canAsk_16 : decode cX11_canAsk 16 = .ok (.iload_n 3, 1) := by decide +kernel
theorem dX11_canAsk_17 : decode cX11_canAsk 17 = .ok (.invokestatic 144, 3) := by decide +kernel
theorem dX11_canAsk_20 : decode cX11_canAsk 20 = .ok (.ifCond .eq 7, 3) := by decide +kernel
theorem dX11_canAsk_23 : decode cX11_canAsk 23 = .ok (.iconst 1, 1) := by decide +kernel
theorem dX11_canAsk_24 : decode cX11_canAsk 24 = .ok (.goto 4, 3) := by decide +kernel
theorem dX11_canAsk_27 : decode cX11_canAsk 27 = .ok (.iconst 0, 1) := by decide +kernel
theorem dX11_canAsk_28 : decode cX11_canAsk 28 = .ok (.ireturn, 1) := by decide +kernel
theorem dX11_quickest_0 : decode cX11_quickest 0 = .ok (.aload_n 0, 1) := by decide +kernel
theorem dX11_quickest_1 : decode cX11_quickest 1 = .ok (.iload_n 1, 1) := by decide +kernel
theorem dX11_quickest_2 : decode cX11_quickest 2 = .ok (.iload_n 2, 1) := by decide +kernel
theorem dX11_quickest_3 : decode cX11_quickest 3 = .ok (.iload_n 3, 1) := by decide +kernel
theorem dX11_quickest_4 : decode cX11_quickest 4 = .ok (.invokevirtual 238, 3) := by decide +kernel
theorem dX11_quickest_7 : decode cX11_quickest 7 = .ok (.ifCond .ne 10, 3) := by decide +kernel
theorem dX11_quickest_10 : decode cX11_quickest 10 = .ok (.aload_n 0, 1) := by decide +kernel
theorem dX11_quickest_11 : decode cX11_quickest 11 = .ok (.ldc 131, 2) := by decide +kernel
theorem dX11_quickest_13 : decode cX11_quickest 13 = .ok (.invokevirtual 132, 3) := by decide +kernel
theorem dX11_quickest_16 : decode cX11_quickest 16 = .ok (.ireturn, 1) := by decide +kernel
theorem dX11_quickest_17 : decode cX11_quickest 17 = .ok (.aload_n 0, 1) := by decide +kernel
theorem dX11_quickest_18 : decode cX11_quickest 18 = .ok (.iload_n 1, 1) := by decide +kernel
theorem dX11_quickest_19 : decode cX11_quickest 19 = .ok (.iload_n 3, 1) := by decide +kernel
theorem dX11_quickest_20 : decode cX11_quickest 20 = .ok (.iload 4, 2) := by decide +kernel
theorem dX11_quickest_22 : decode cX11_quickest 22 = .ok (.invokevirtual 231, 3) := by decide +kernel
theorem dX11_quickest_25 : decode cX11_quickest 25 = .ok (.aload_n 0, 1) := by decide +kernel
theorem dX11_quickest_26 : decode cX11_quickest 26 = .ok (.getfield 102, 3) := by decide +kernel
theorem dX11_quickest_29 : decode cX11_quickest 29 = .ok (.iload_n 2, 1) := by decide +kernel
theorem dX11_quickest_30 : decode cX11_quickest 30 = .ok (.iconst 0, 1) := by decide +kernel
theorem dX11_quickest_31 : decode cX11_quickest 31 = .ok (.invokestatic 210, 3) := by decide +kernel
theorem dX11_quickest_34 : decode cX11_quickest 34 = .ok (.iaload, 1) := by decide +kernel
theorem dX11_quickest_35 : decode cX11_quickest 35 = .ok (.istore 5, 2) := by decide +kernel
theorem dX11_quickest_37 : decode cX11_quickest 37 = .ok (.iload 5, 2) := by decide +kernel
theorem dX11_quickest_39 : decode cX11_quickest 39 = .ok (.ldc 147, 2) := by decide +kernel
theorem dX11_quickest_41 : decode cX11_quickest 41 = .ok (.if_icmp .lt 12, 3) := by decide +kernel
theorem dX11_quickest_44 : decode cX11_quickest 44 = .ok (.aload_n 0, 1) := by decide +kernel
theorem dX11_quickest_45 : decode cX11_quickest 45 = .ok (.ldc 158, 2) := by decide +kernel
theorem dX11_quickest_47 : decode cX11_quickest 47 = .ok (.invokevirtual 132, 3) := by decide +kernel
theorem dX11_quickest_50 : decode cX11_quickest 50 = .ok (.goto 5, 3) := by decide +kernel
theorem dX11_quickest_53 : decode cX11_quickest 53 = .ok (.iload 5, 2) := by decide +kernel
theorem dX11_quickest_55 : decode cX11_quickest 55 = .ok (.ireturn, 1) := by decide +kernel
theorem dX11_goesTo_0 : decode cX11_goesTo 0 = .ok (.bipush 8, 2) := by decide +kernel
theorem dX11_goesTo_2 : decode cX11_goesTo 2 = .ok (.istore 5, 2) := by decide +kernel
theorem dX11_goesTo_4 : decode cX11_goesTo 4 = .ok (.iconst 0, 1) := by decide +kernel
theorem dX11_goesTo_5 : decode cX11_goesTo 5 = .ok (.istore 6, 2) := by decide +kernel
theorem dX11_goesTo_7 : decode cX11_goesTo 7 = .ok (.iload 6, 2) := by decide +kernel
theorem dX11_goesTo_9 : decode cX11_goesTo 9 = .ok (.aload_n 0, 1) := by decide +kernel
theorem dX11_goesTo_10 : decode cX11_goesTo 10 = .ok (.getfield 125, 3) := by decide +kernel
theorem dX11_goesTo_13 : decode cX11_goesTo 13 = .ok (.if_icmp .ge 120, 3) := by decide +kernel
theorem dX11_goesTo_16 : decode cX11_goesTo 16 = .ok (.aload_n 0, 1) := by decide +kernel
theorem dX11_goesTo_17 : decode cX11_goesTo 17 = .ok (.iload 6, 2) := by decide +kernel
theorem dX11_goesTo_19 : decode cX11_goesTo 19 = .ok (.iload_n 3, 1) := by decide +kernel
theorem dX11_goesTo_20 : decode cX11_goesTo 20 = .ok (.iload 4, 2) := by decide +kernel
theorem dX11_goesTo_22 : decode cX11_goesTo 22 = .ok (.invokevirtual 148, 3) := by decide +kernel
theorem dX11_goesTo_25 : decode cX11_goesTo 25 = .ok (.ifCond .eq 102, 3) := by decide +kernel
theorem dX11_goesTo_28 : decode cX11_goesTo 28 = .ok (.aload_n 0, 1) := by decide +kernel
theorem dX11_goesTo_29 : decode cX11_goesTo 29 = .ok (.getfield 16, 3) := by decide +kernel
theorem dX11_goesTo_32 : decode cX11_goesTo 32 = .ok (.iload 6, 2) := by decide +kernel
theorem dX11_goesTo_34 : decode cX11_goesTo 34 = .ok (.iaload, 1) := by decide +kernel
theorem dX11_goesTo_35 : decode cX11_goesTo 35 = .ok (.iload_n 1, 1) := by decide +kernel
theorem dX11_goesTo_36 : decode cX11_goesTo 36 = .ok (.if_icmp .eq 14, 3) := by decide +kernel
theorem dX11_goesTo_39 : decode cX11_goesTo 39 = .ok (.aload_n 0, 1) := by decide +kernel
theorem dX11_goesTo_40 : decode cX11_goesTo 40 = .ok (.getfield 19, 3) := by decide +kernel
theorem dX11_goesTo_43 : decode cX11_goesTo 43 = .ok (.iload 6, 2) := by decide +kernel
theorem dX11_goesTo_45 : decode cX11_goesTo 45 = .ok (.iaload, 1) := by decide +kernel
theorem dX11_goesTo_46 : decode cX11_goesTo 46 = .ok (.iload_n 1, 1) := by decide +kernel
theorem dX11_goesTo_47 : decode cX11_goesTo 47 = .ok (.if_icmp .ne 80, 3) := by decide +kernel
theorem dX11_goesTo_50 : decode cX11_goesTo 50 = .ok (.aload_n 0, 1) := by decide +kernel
theorem dX11_goesTo_51 : decode cX11_goesTo 51 = .ok (.getfield 16, 3) := by decide +kernel
theorem dX11_goesTo_54 : decode cX11_goesTo 54 = .ok (.iload 6, 2) := by decide +kernel
theorem dX11_goesTo_56 : decode cX11_goesTo 56 = .ok (.iaload, 1) := by decide +kernel
theorem dX11_goesTo_57 : decode cX11_goesTo 57 = .ok (.aload_n 0, 1) := by decide +kernel
theorem dX11_goesTo_58 : decode cX11_goesTo 58 = .ok (.getfield 19, 3) := by decide +kernel
theorem dX11_goesTo_61 : decode cX11_goesTo 61 = .ok (.iload 6, 2) := by decide +kernel
theorem dX11_goesTo_63 : decode cX11_goesTo 63 = .ok (.iaload, 1) := by decide +kernel
theorem dX11_goesTo_64 : decode cX11_goesTo 64 = .ok (.iadd, 1) := by decide +kernel
theorem dX11_goesTo_65 : decode cX11_goesTo 65 = .ok (.iload_n 1, 1) := by decide +kernel
theorem dX11_goesTo_66 : decode cX11_goesTo 66 = .ok (.isub, 1) := by decide +kernel
theorem dX11_goesTo_67 : decode cX11_goesTo 67 = .ok (.istore 7, 2) := by decide +kernel
theorem dX11_goesTo_69 : decode cX11_goesTo 69 = .ok (.aload_n 0, 1) := by decide +kernel
theorem dX11_goesTo_70 : decode cX11_goesTo 70 = .ok (.getfield 22, 3) := by decide +kernel
theorem dX11_goesTo_73 : decode cX11_goesTo 73 = .ok (.iload 6, 2) := by decide +kernel
theorem dX11_goesTo_75 : decode cX11_goesTo 75 = .ok (.iaload, 1) := by decide +kernel
theorem dX11_goesTo_76 : decode cX11_goesTo 76 = .ok (.aload_n 0, 1) := by decide +kernel
theorem dX11_goesTo_77 : decode cX11_goesTo 77 = .ok (.getfield 102, 3) := by decide +kernel
theorem dX11_goesTo_80 : decode cX11_goesTo 80 = .ok (.iload 7, 2) := by decide +kernel
theorem dX11_goesTo_82 : decode cX11_goesTo 82 = .ok (.iload_n 2, 1) := by decide +kernel
theorem dX11_goesTo_83 : decode cX11_goesTo 83 = .ok (.invokestatic 210, 3) := by decide +kernel
theorem dX11_goesTo_86 : decode cX11_goesTo 86 = .ok (.iaload, 1) := by decide +kernel
theorem dX11_goesTo_87 : decode cX11_goesTo 87 = .ok (.iadd, 1) := by decide +kernel
theorem dX11_goesTo_88 : decode cX11_goesTo 88 = .ok (.aload_n 0, 1) := by decide +kernel
theorem dX11_goesTo_89 : decode cX11_goesTo 89 = .ok (.getfield 102, 3) := by decide +kernel
theorem dX11_goesTo_92 : decode cX11_goesTo 92 = .ok (.iload_n 1, 1) := by decide +kernel
theorem dX11_goesTo_93 : decode cX11_goesTo 93 = .ok (.iload_n 2, 1) := by decide +kernel
theorem dX11_goesTo_94 : decode cX11_goesTo 94 = .ok (.invokestatic 210, 3) := by decide +kernel
theorem dX11_goesTo_97 : decode cX11_goesTo 97 = .ok (.iaload, 1) := by decide +kernel
theorem dX11_goesTo_98 : decode cX11_goesTo 98 = .ok (.if_icmp .ne 7, 3) := by decide +kernel
theorem dX11_goesTo_101 : decode cX11_goesTo 101 = .ok (.iconst 1, 1) := by decide +kernel
theorem dX11_goesTo_102 : decode cX11_goesTo 102 = .ok (.goto 4, 3) := by decide +kernel
theorem dX11_goesTo_105 : decode cX11_goesTo 105 = .ok (.iconst 0, 1) := by decide +kernel
theorem dX11_goesTo_106 : decode cX11_goesTo 106 = .ok (.istore 8, 2) := by decide +kernel
theorem dX11_goesTo_108 : decode cX11_goesTo 108 = .ok (.iload 8, 2) := by decide +kernel
theorem dX11_goesTo_110 : decode cX11_goesTo 110 = .ok (.ifCond .eq 13, 3) := by decide +kernel
theorem dX11_goesTo_113 : decode cX11_goesTo 113 = .ok (.iload 5, 2) := by decide +kernel
theorem dX11_goesTo_115 : decode cX11_goesTo 115 = .ok (.iload 7, 2) := by decide +kernel
theorem dX11_goesTo_117 : decode cX11_goesTo 117 = .ok (.invokestatic 152, 3) := by decide +kernel
theorem dX11_goesTo_120 : decode cX11_goesTo 120 = .ok (.goto 5, 3) := by decide +kernel
theorem dX11_goesTo_123 : decode cX11_goesTo 123 = .ok (.iload 5, 2) := by decide +kernel
theorem dX11_goesTo_125 : decode cX11_goesTo 125 = .ok (.istore 5, 2) := by decide +kernel
theorem dX11_goesTo_127 : decode cX11_goesTo 127 = .ok (.iinc 6 1, 3) := by decide +kernel
theorem dX11_goesTo_130 : decode cX11_goesTo 130 = .ok (.goto (-123), 3) := by decide +kernel
theorem dX11_goesTo_133 : decode cX11_goesTo 133 = .ok (.iload 5, 2) := by decide +kernel
theorem dX11_goesTo_135 : decode cX11_goesTo 135 = .ok (.ireturn, 1) := by decide +kernel
theorem dX11_route_0 : decode cX11_route 0 = .ok (.aload_n 0, 1) := by decide +kernel
theorem dX11_route_1 : decode cX11_route 1 = .ok (.iload_n 1, 1) := by decide +kernel
theorem dX11_route_2 : decode cX11_route 2 = .ok (.iload_n 2, 1) := by decide +kernel
theorem dX11_route_3 : decode cX11_route 3 = .ok (.iload_n 3, 1) := by decide +kernel
theorem dX11_route_4 : decode cX11_route 4 = .ok (.invokevirtual 238, 3) := by decide +kernel
theorem dX11_route_7 : decode cX11_route 7 = .ok (.ifCond .eq 8, 3) := by decide +kernel
theorem dX11_route_10 : decode cX11_route 10 = .ok (.iload 5, 2) := by decide +kernel
theorem dX11_route_12 : decode cX11_route 12 = .ok (.ifCond .ge 10, 3) := by decide +kernel
theorem dX11_route_15 : decode cX11_route 15 = .ok (.aload_n 0, 1) := by decide +kernel
theorem dX11_route_16 : decode cX11_route 16 = .ok (.ldc 131, 2) := by decide +kernel
theorem dX11_route_18 : decode cX11_route 18 = .ok (.invokevirtual 132, 3) := by decide +kernel
theorem dX11_route_21 : decode cX11_route 21 = .ok (.ireturn, 1) := by decide +kernel
theorem dX11_route_22 : decode cX11_route 22 = .ok (.aload_n 0, 1) := by decide +kernel
theorem dX11_route_23 : decode cX11_route 23 = .ok (.iload_n 1, 1) := by decide +kernel
theorem dX11_route_24 : decode cX11_route 24 = .ok (.iload_n 3, 1) := by decide +kernel
theorem dX11_route_25 : decode cX11_route 25 = .ok (.iload 4, 2) := by decide +kernel
theorem dX11_route_27 : decode cX11_route 27 = .ok (.invokevirtual 231, 3) := by decide +kernel
theorem dX11_route_30 : decode cX11_route 30 = .ok (.aload_n 0, 1) := by decide +kernel
theorem dX11_route_31 : decode cX11_route 31 = .ok (.getfield 102, 3) := by decide +kernel
theorem dX11_route_34 : decode cX11_route 34 = .ok (.iload_n 2, 1) := by decide +kernel
theorem dX11_route_35 : decode cX11_route 35 = .ok (.iconst 0, 1) := by decide +kernel
theorem dX11_route_36 : decode cX11_route 36 = .ok (.invokestatic 210, 3) := by decide +kernel
theorem dX11_route_39 : decode cX11_route 39 = .ok (.iaload, 1) := by decide +kernel
theorem dX11_route_40 : decode cX11_route 40 = .ok (.ldc 147, 2) := by decide +kernel
theorem dX11_route_42 : decode cX11_route 42 = .ok (.if_icmp .lt 10, 3) := by decide +kernel
theorem dX11_route_45 : decode cX11_route 45 = .ok (.aload_n 0, 1) := by decide +kernel
theorem dX11_route_46 : decode cX11_route 46 = .ok (.ldc 158, 2) := by decide +kernel
theorem dX11_route_48 : decode cX11_route 48 = .ok (.invokevirtual 132, 3) := by decide +kernel
theorem dX11_route_51 : decode cX11_route 51 = .ok (.ireturn, 1) := by decide +kernel
theorem dX11_route_52 : decode cX11_route 52 = .ok (.iload_n 2, 1) := by decide +kernel
theorem dX11_route_53 : decode cX11_route 53 = .ok (.istore 6, 2) := by decide +kernel
theorem dX11_route_55 : decode cX11_route 55 = .ok (.iconst 0, 1) := by decide +kernel
theorem dX11_route_56 : decode cX11_route 56 = .ok (.istore 7, 2) := by decide +kernel
theorem dX11_route_58 : decode cX11_route 58 = .ok (.iconst 0, 1) := by decide +kernel
theorem dX11_route_59 : decode cX11_route 59 = .ok (.istore 8, 2) := by decide +kernel
theorem dX11_route_61 : decode cX11_route 61 = .ok (.aload_n 0, 1) := by decide +kernel
theorem dX11_route_62 : decode cX11_route 62 = .ok (.iload_n 1, 1) := by decide +kernel
theorem dX11_route_63 : decode cX11_route 63 = .ok (.iload 7, 2) := by decide +kernel
theorem dX11_route_65 : decode cX11_route 65 = .ok (.invokevirtual 203, 3) := by decide +kernel
theorem dX11_route_68 : decode cX11_route 68 = .ok (.ifCond .ne 61, 3) := by decide +kernel
theorem dX11_route_71 : decode cX11_route 71 = .ok (.aload_n 0, 1) := by decide +kernel
theorem dX11_route_72 : decode cX11_route 72 = .ok (.iload_n 1, 1) := by decide +kernel
theorem dX11_route_73 : decode cX11_route 73 = .ok (.iload 6, 2) := by decide +kernel
theorem dX11_route_75 : decode cX11_route 75 = .ok (.iload 7, 2) := by decide +kernel
theorem dX11_route_77 : decode cX11_route 77 = .ok (.iload_n 3, 1) := by decide +kernel
theorem dX11_route_78 : decode cX11_route 78 = .ok (.invokevirtual 206, 3) := by decide +kernel
theorem dX11_route_81 : decode cX11_route 81 = .ok (.istore 9, 2) := by decide +kernel
theorem dX11_route_83 : decode cX11_route 83 = .ok (.iload 9, 2) := by decide +kernel
theorem dX11_route_85 : decode cX11_route 85 = .ok (.ifCond .lt 15, 3) := by decide +kernel
theorem dX11_route_88 : decode cX11_route 88 = .ok (.iload 7, 2) := by decide +kernel
theorem dX11_route_90 : decode cX11_route 90 = .ok (.iconst 1, 1) := by decide +kernel
theorem dX11_route_91 : decode cX11_route 91 = .ok (.iload 9, 2) := by decide +kernel
theorem dX11_route_93 : decode cX11_route 93 = .ok (.ishl, 1) := by decide +kernel
theorem dX11_route_94 : decode cX11_route 94 = .ok (.ior, 1) := by decide +kernel
theorem dX11_route_95 : decode cX11_route 95 = .ok (.istore 7, 2) := by decide +kernel
theorem dX11_route_97 : decode cX11_route 97 = .ok (.goto 29, 3) := by decide +kernel
theorem dX11_route_100 : decode cX11_route 100 = .ok (.aload_n 0, 1) := by decide +kernel
theorem dX11_route_101 : decode cX11_route 101 = .ok (.iload 6, 2) := by decide +kernel
theorem dX11_route_103 : decode cX11_route 103 = .ok (.iload 7, 2) := by decide +kernel
theorem dX11_route_105 : decode cX11_route 105 = .ok (.iload_n 3, 1) := by decide +kernel
theorem dX11_route_106 : decode cX11_route 106 = .ok (.iload 4, 2) := by decide +kernel
theorem dX11_route_108 : decode cX11_route 108 = .ok (.invokevirtual 241, 3) := by decide +kernel
theorem dX11_route_111 : decode cX11_route 111 = .ok (.istore 6, 2) := by decide +kernel
theorem dX11_route_113 : decode cX11_route 113 = .ok (.iload 8, 2) := by decide +kernel
theorem dX11_route_115 : decode cX11_route 115 = .ok (.iload 5, 2) := by decide +kernel
theorem dX11_route_117 : decode cX11_route 117 = .ok (.if_icmp .ne 6, 3) := by decide +kernel
theorem dX11_route_120 : decode cX11_route 120 = .ok (.iload 6, 2) := by decide +kernel
theorem dX11_route_122 : decode cX11_route 122 = .ok (.ireturn, 1) := by decide +kernel
theorem dX11_route_123 : decode cX11_route 123 = .ok (.iinc 8 1, 3) := by decide +kernel
theorem dX11_route_126 : decode cX11_route 126 = .ok (.goto (-65), 3) := by decide +kernel
theorem dX11_route_129 : decode cX11_route 129 = .ok (.iconst (-1), 1) := by decide +kernel
theorem dX11_route_130 : decode cX11_route 130 = .ok (.ireturn, 1) := by decide +kernel
theorem dX11_listens_0 : decode cX11_listens 0 = .ok (.iconst 0, 1) := by decide +kernel
theorem dX11_listens_1 : decode cX11_listens 1 = .ok (.istore_n 2, 1) := by decide +kernel
theorem dX11_listens_2 : decode cX11_listens 2 = .ok (.aload_n 0, 1) := by decide +kernel
theorem dX11_listens_3 : decode cX11_listens 3 = .ok (.getfield 62, 3) := by decide +kernel
theorem dX11_listens_6 : decode cX11_listens 6 = .ok (.iload_n 1, 1) := by decide +kernel
theorem dX11_listens_7 : decode cX11_listens 7 = .ok (.iaload, 1) := by decide +kernel
theorem dX11_listens_8 : decode cX11_listens 8 = .ok (.istore_n 3, 1) := by decide +kernel
theorem dX11_listens_9 : decode cX11_listens 9 = .ok (.iconst 1, 1) := by decide +kernel
theorem dX11_listens_10 : decode cX11_listens 10 = .ok (.istore 4, 2) := by decide +kernel
theorem dX11_listens_12 : decode cX11_listens 12 = .ok (.iload 4, 2) := by decide +kernel
theorem dX11_listens_14 : decode cX11_listens 14 = .ok (.ifCond .eq 109, 3) := by decide +kernel
theorem dX11_listens_17 : decode cX11_listens 17 = .ok (.aload_n 0, 1) := by decide +kernel
theorem dX11_listens_18 : decode cX11_listens 18 = .ok (.iload_n 3, 1) := by decide +kernel
theorem dX11_listens_19 : decode cX11_listens 19 = .ok (.aload_n 0, 1) := by decide +kernel
theorem dX11_listens_20 : decode cX11_listens 20 = .ok (.getfield 56, 3) := by decide +kernel
theorem dX11_listens_23 : decode cX11_listens 23 = .ok (.iload_n 1, 1) := by decide +kernel
theorem dX11_listens_24 : decode cX11_listens 24 = .ok (.iaload, 1) := by decide +kernel
theorem dX11_listens_25 : decode cX11_listens 25 = .ok (.invokevirtual 203, 3) := by decide +kernel
theorem dX11_listens_28 : decode cX11_listens 28 = .ok (.ifCond .eq 7, 3) := by decide +kernel
theorem dX11_listens_31 : decode cX11_listens 31 = .ok (.iconst (-1), 1) := by decide +kernel
theorem dX11_listens_32 : decode cX11_listens 32 = .ok (.goto 24, 3) := by decide +kernel
theorem dX11_listens_35 : decode cX11_listens 35 = .ok (.aload_n 0, 1) := by decide +kernel
theorem dX11_listens_36 : decode cX11_listens 36 = .ok (.iload_n 3, 1) := by decide +kernel
theorem dX11_listens_37 : decode cX11_listens 37 = .ok (.aload_n 0, 1) := by decide +kernel
theorem dX11_listens_38 : decode cX11_listens 38 = .ok (.getfield 53, 3) := by decide +kernel
theorem dX11_listens_41 : decode cX11_listens 41 = .ok (.iload_n 1, 1) := by decide +kernel
theorem dX11_listens_42 : decode cX11_listens 42 = .ok (.iaload, 1) := by decide +kernel
theorem dX11_listens_43 : decode cX11_listens 43 = .ok (.aload_n 0, 1) := by decide +kernel
theorem dX11_listens_44 : decode cX11_listens 44 = .ok (.getfield 56, 3) := by decide +kernel
theorem dX11_listens_47 : decode cX11_listens 47 = .ok (.iload_n 1, 1) := by decide +kernel
theorem dX11_listens_48 : decode cX11_listens 48 = .ok (.iaload, 1) := by decide +kernel
theorem dX11_listens_49 : decode cX11_listens 49 = .ok (.aload_n 0, 1) := by decide +kernel
theorem dX11_listens_50 : decode cX11_listens 50 = .ok (.getfield 245, 3) := by decide +kernel
theorem dX11_listens_53 : decode cX11_listens 53 = .ok (.invokevirtual 206, 3) := by decide +kernel
theorem dX11_listens_56 : decode cX11_listens 56 = .ok (.istore 5, 2) := by decide +kernel
theorem dX11_listens_58 : decode cX11_listens 58 = .ok (.iload 5, 2) := by decide +kernel
theorem dX11_listens_60 : decode cX11_listens 60 = .ok (.ifCond .lt 7, 3) := by decide +kernel
theorem dX11_listens_63 : decode cX11_listens 63 = .ok (.iconst 1, 1) := by decide +kernel
theorem dX11_listens_64 : decode cX11_listens 64 = .ok (.goto 4, 3) := by decide +kernel
theorem dX11_listens_67 : decode cX11_listens 67 = .ok (.iconst 0, 1) := by decide +kernel
theorem dX11_listens_68 : decode cX11_listens 68 = .ok (.istore 4, 2) := by decide +kernel
theorem dX11_listens_70 : decode cX11_listens 70 = .ok (.iload 4, 2) := by decide +kernel
theorem dX11_listens_72 : decode cX11_listens 72 = .ok (.ifCond .eq 48, 3) := by decide +kernel
theorem dX11_listens_75 : decode cX11_listens 75 = .ok (.aload_n 0, 1) := by decide +kernel
theorem dX11_listens_76 : decode cX11_listens 76 = .ok (.getfield 56, 3) := by decide +kernel
theorem dX11_listens_79 : decode cX11_listens 79 = .ok (.iload_n 1, 1) := by decide +kernel
theorem dX11_listens_80 : decode cX11_listens 80 = .ok (.dup2, 1) := by decide +kernel
theorem dX11_listens_81 : decode cX11_listens 81 = .ok (.iaload, 1) := by decide +kernel
theorem dX11_listens_82 : decode cX11_listens 82 = .ok (.iconst 1, 1) := by decide +kernel
theorem dX11_listens_83 : decode cX11_listens 83 = .ok (.iload 5, 2) := by decide +kernel
theorem dX11_listens_85 : decode cX11_listens 85 = .ok (.ishl, 1) := by decide +kernel
theorem dX11_listens_86 : decode cX11_listens 86 = .ok (.ior, 1) := by decide +kernel
theorem dX11_listens_87 : decode cX11_listens 87 = .ok (.iastore, 1) := by decide +kernel
theorem dX11_listens_88 : decode cX11_listens 88 = .ok (.aload_n 0, 1) := by decide +kernel
theorem dX11_listens_89 : decode cX11_listens 89 = .ok (.getfield 59, 3) := by decide +kernel
theorem dX11_listens_92 : decode cX11_listens 92 = .ok (.iload_n 1, 1) := by decide +kernel
theorem dX11_listens_93 : decode cX11_listens 93 = .ok (.dup2, 1) := by decide +kernel
theorem dX11_listens_94 : decode cX11_listens 94 = .ok (.iaload, 1) := by decide +kernel
theorem dX11_listens_95 : decode cX11_listens 95 = .ok (.aload_n 0, 1) := by decide +kernel
theorem dX11_listens_96 : decode cX11_listens 96 = .ok (.getfield 41, 3) := by decide +kernel
theorem dX11_listens_99 : decode cX11_listens 99 = .ok (.bipush 12, 2) := by decide +kernel
theorem dX11_listens_101 : decode cX11_listens 101 = .ok (.iload_n 3, 1) := by decide +kernel
theorem dX11_listens_102 : decode cX11_listens 102 = .ok (.imul, 1) := by decide +kernel
theorem dX11_listens_103 : decode cX11_listens 103 = .ok (.iload 5, 2) := by decide +kernel
theorem dX11_listens_105 : decode cX11_listens 105 = .ok (.iadd, 1) := by decide +kernel
theorem dX11_listens_106 : decode cX11_listens 106 = .ok (.iaload, 1) := by decide +kernel
theorem dX11_listens_107 : decode cX11_listens 107 = .ok (.iadd, 1) := by decide +kernel
theorem dX11_listens_108 : decode cX11_listens 108 = .ok (.iastore, 1) := by decide +kernel
theorem dX11_listens_109 : decode cX11_listens 109 = .ok (.aload_n 0, 1) := by decide +kernel
theorem dX11_listens_110 : decode cX11_listens 110 = .ok (.getfield 68, 3) := by decide +kernel
theorem dX11_listens_113 : decode cX11_listens 113 = .ok (.iload_n 1, 1) := by decide +kernel
theorem dX11_listens_114 : decode cX11_listens 114 = .ok (.iload 5, 2) := by decide +kernel
theorem dX11_listens_116 : decode cX11_listens 116 = .ok (.iastore, 1) := by decide +kernel
theorem dX11_listens_117 : decode cX11_listens 117 = .ok (.iinc 2 1, 3) := by decide +kernel
theorem dX11_listens_120 : decode cX11_listens 120 = .ok (.goto (-108), 3) := by decide +kernel
theorem dX11_listens_123 : decode cX11_listens 123 = .ok (.iload_n 2, 1) := by decide +kernel
theorem dX11_listens_124 : decode cX11_listens 124 = .ok (.ireturn, 1) := by decide +kernel
theorem dX11_isDone_0 : decode cX11_isDone 0 = .ok (.aload_n 0, 1) := by decide +kernel
theorem dX11_isDone_1 : decode cX11_isDone 1 = .ok (.aload_n 0, 1) := by decide +kernel
theorem dX11_isDone_2 : decode cX11_isDone 2 = .ok (.getfield 62, 3) := by decide +kernel
theorem dX11_isDone_5 : decode cX11_isDone 5 = .ok (.iload_n 1, 1) := by decide +kernel
theorem dX11_isDone_6 : decode cX11_isDone 6 = .ok (.iaload, 1) := by decide +kernel
theorem dX11_isDone_7 : decode cX11_isDone 7 = .ok (.aload_n 0, 1) := by decide +kernel
theorem dX11_isDone_8 : decode cX11_isDone 8 = .ok (.getfield 56, 3) := by decide +kernel
theorem dX11_isDone_11 : decode cX11_isDone 11 = .ok (.iload_n 1, 1) := by decide +kernel
theorem dX11_isDone_12 : decode cX11_isDone 12 = .ok (.iaload, 1) := by decide +kernel
theorem dX11_isDone_13 : decode cX11_isDone 13 = .ok (.invokevirtual 203, 3) := by decide +kernel
theorem dX11_isDone_16 : decode cX11_isDone 16 = .ok (.ireturn, 1) := by decide +kernel
theorem dX11_walker_0 : decode cX11_walker 0 = .ok (.aload_n 0, 1) := by decide +kernel
theorem dX11_walker_1 : decode cX11_walker 1 = .ok (.iload_n 1, 1) := by decide +kernel
theorem dX11_walker_2 : decode cX11_walker 2 = .ok (.invokevirtual 137, 3) := by decide +kernel
theorem dX11_walker_5 : decode cX11_walker 5 = .ok (.ifCond .ne 10, 3) := by decide +kernel
theorem dX11_walker_8 : decode cX11_walker 8 = .ok (.aload_n 0, 1) := by decide +kernel
theorem dX11_walker_9 : decode cX11_walker 9 = .ok (.ldc 131, 2) := by decide +kernel
theorem dX11_walker_11 : decode cX11_walker 11 = .ok (.invokevirtual 132, 3) := by decide +kernel
theorem dX11_walker_14 : decode cX11_walker 14 = .ok (.ireturn, 1) := by decide +kernel
theorem dX11_walker_15 : decode cX11_walker 15 = .ok (.aload_n 0, 1) := by decide +kernel
theorem dX11_walker_16 : decode cX11_walker 16 = .ok (.getfield 184, 3) := by decide +kernel
theorem dX11_walker_19 : decode cX11_walker 19 = .ok (.ifCond .ne 10, 3) := by decide +kernel
theorem dX11_walker_22 : decode cX11_walker 22 = .ok (.aload_n 0, 1) := by decide +kernel
theorem dX11_walker_23 : decode cX11_walker 23 = .ok (.ldc 248, 2) := by decide +kernel
theorem dX11_walker_25 : decode cX11_walker 25 = .ok (.invokevirtual 132, 3) := by decide +kernel
theorem dX11_walker_28 : decode cX11_walker 28 = .ok (.ireturn, 1) := by decide +kernel
theorem dX11_walker_29 : decode cX11_walker 29 = .ok (.aload_n 0, 1) := by decide +kernel
theorem dX11_walker_30 : decode cX11_walker 30 = .ok (.getfield 128, 3) := by decide +kernel
theorem dX11_walker_33 : decode cX11_walker 33 = .ok (.bipush 6, 2) := by decide +kernel
theorem dX11_walker_35 : decode cX11_walker 35 = .ok (.if_icmp .ne 10, 3) := by decide +kernel
theorem dX11_walker_38 : decode cX11_walker 38 = .ok (.aload_n 0, 1) := by decide +kernel
theorem dX11_walker_39 : decode cX11_walker 39 = .ok (.ldc 136, 2) := by decide +kernel
theorem dX11_walker_41 : decode cX11_walker 41 = .ok (.invokevirtual 132, 3) := by decide +kernel
theorem dX11_walker_44 : decode cX11_walker 44 = .ok (.ireturn, 1) := by decide +kernel
theorem dX11_walker_45 : decode cX11_walker 45 = .ok (.aload_n 0, 1) := by decide +kernel
theorem dX11_walker_46 : decode cX11_walker 46 = .ok (.getfield 128, 3) := by decide +kernel
theorem dX11_walker_49 : decode cX11_walker 49 = .ok (.istore_n 3, 1) := by decide +kernel
theorem dX11_walker_50 : decode cX11_walker 50 = .ok (.aload_n 0, 1) := by decide +kernel
theorem dX11_walker_51 : decode cX11_walker 51 = .ok (.getfield 53, 3) := by decide +kernel
theorem dX11_walker_54 : decode cX11_walker 54 = .ok (.iload_n 3, 1) := by decide +kernel
theorem dX11_walker_55 : decode cX11_walker 55 = .ok (.iload_n 1, 1) := by decide +kernel
theorem dX11_walker_56 : decode cX11_walker 56 = .ok (.iastore, 1) := by decide +kernel
theorem dX11_walker_57 : decode cX11_walker 57 = .ok (.aload_n 0, 1) := by decide +kernel
theorem dX11_walker_58 : decode cX11_walker 58 = .ok (.getfield 65, 3) := by decide +kernel
theorem dX11_walker_61 : decode cX11_walker 61 = .ok (.iload_n 3, 1) := by decide +kernel
theorem dX11_walker_62 : decode cX11_walker 62 = .ok (.iload_n 2, 1) := by decide +kernel
theorem dX11_walker_63 : decode cX11_walker 63 = .ok (.bastore, 1) := by decide +kernel
theorem dX11_walker_64 : decode cX11_walker 64 = .ok (.aload_n 0, 1) := by decide +kernel
theorem dX11_walker_65 : decode cX11_walker 65 = .ok (.getfield 62, 3) := by decide +kernel
theorem dX11_walker_68 : decode cX11_walker 68 = .ok (.iload_n 3, 1) := by decide +kernel
theorem dX11_walker_69 : decode cX11_walker 69 = .ok (.aload_n 0, 1) := by decide +kernel
theorem dX11_walker_70 : decode cX11_walker 70 = .ok (.getfield 184, 3) := by decide +kernel
theorem dX11_walker_73 : decode cX11_walker 73 = .ok (.iconst 1, 1) := by decide +kernel
theorem dX11_walker_74 : decode cX11_walker 74 = .ok (.isub, 1) := by decide +kernel
theorem dX11_walker_75 : decode cX11_walker 75 = .ok (.iastore, 1) := by decide +kernel
theorem dX11_walker_76 : decode cX11_walker 76 = .ok (.aload_n 0, 1) := by decide +kernel
theorem dX11_walker_77 : decode cX11_walker 77 = .ok (.getfield 68, 3) := by decide +kernel
theorem dX11_walker_80 : decode cX11_walker 80 = .ok (.iload_n 3, 1) := by decide +kernel
theorem dX11_walker_81 : decode cX11_walker 81 = .ok (.iconst (-1), 1) := by decide +kernel
theorem dX11_walker_82 : decode cX11_walker 82 = .ok (.iastore, 1) := by decide +kernel
theorem dX11_walker_83 : decode cX11_walker 83 = .ok (.aload_n 0, 1) := by decide +kernel
theorem dX11_walker_84 : decode cX11_walker 84 = .ok (.dup, 1) := by decide +kernel
theorem dX11_walker_85 : decode cX11_walker 85 = .ok (.getfield 128, 3) := by decide +kernel
theorem dX11_walker_88 : decode cX11_walker 88 = .ok (.iconst 1, 1) := by decide +kernel
theorem dX11_walker_89 : decode cX11_walker 89 = .ok (.iadd, 1) := by decide +kernel
theorem dX11_walker_90 : decode cX11_walker 90 = .ok (.putfield 128, 3) := by decide +kernel
theorem dX11_walker_93 : decode cX11_walker 93 = .ok (.aload_n 0, 1) := by decide +kernel
theorem dX11_walker_94 : decode cX11_walker 94 = .ok (.iload_n 3, 1) := by decide +kernel
theorem dX11_walker_95 : decode cX11_walker 95 = .ok (.invokevirtual 249, 3) := by decide +kernel
theorem dX11_walker_98 : decode cX11_walker 98 = .ok (.istore 4, 2) := by decide +kernel
theorem dX11_walker_100 : decode cX11_walker 100 = .ok (.iload_n 3, 1) := by decide +kernel
theorem dX11_walker_101 : decode cX11_walker 101 = .ok (.ireturn, 1) := by decide +kernel
theorem dX11_today_0 : decode cX11_today 0 = .ok (.iload_n 1, 1) := by decide +kernel
theorem dX11_today_1 : decode cX11_today 1 = .ok (.invokestatic 144, 3) := by decide +kernel
theorem dX11_today_4 : decode cX11_today 4 = .ok (.ifCond .ne 10, 3) := by decide +kernel
theorem dX11_today_7 : decode cX11_today 7 = .ok (.aload_n 0, 1) := by decide +kernel
theorem dX11_today_8 : decode cX11_today 8 = .ok (.ldc 131, 2) := by decide +kernel
theorem dX11_today_10 : decode cX11_today 10 = .ok (.invokevirtual 132, 3) := by decide +kernel
theorem dX11_today_13 : decode cX11_today 13 = .ok (.ireturn, 1) := by decide +kernel
theorem dX11_today_14 : decode cX11_today 14 = .ok (.aload_n 0, 1) := by decide +kernel
theorem dX11_today_15 : decode cX11_today 15 = .ok (.getfield 245, 3) := by decide +kernel
theorem dX11_today_18 : decode cX11_today 18 = .ok (.istore_n 2, 1) := by decide +kernel
