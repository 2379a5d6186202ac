theorem dX11_today_19 : decode cX11_today 19 = .ok (.aload_n 0, 1) := by decide +kernel
theorem dX11_today_20 : decode cX11_today 20 = .ok (.iload_n 1, 1) := by decide +kernel
theorem dX11_today_21 : decode cX11_today 21 = .ok (.putfield 245, 3) := by decide +kernel
theorem dX11_today_24 : decode cX11_today 24 = .ok (.iconst 0, 1) := by decide +kernel
theorem dX11_today_25 : decode cX11_today 25 = .ok (.istore_n 3, 1) := by decide +kernel
theorem dX11_today_26 : decode cX11_today 26 = .ok (.iload_n 3, 1) := by decide +kernel
theorem dX11_today_27 : decode cX11_today 27 = .ok (.aload_n 0, 1) := by decide +kernel
theorem dX11_today_28 : decode cX11_today 28 = .ok (.getfield 128, 3) := by decide +kernel
theorem dX11_today_31 : decode cX11_today 31 = .ok (.if_icmp .ge 16, 3) := by decide +kernel
theorem dX11_today_34 : decode cX11_today 34 = .ok (.aload_n 0, 1) := by decide +kernel
theorem dX11_today_35 : decode cX11_today 35 = .ok (.iload_n 3, 1) := by decide +kernel
theorem dX11_today_36 : decode cX11_today 36 = .ok (.invokevirtual 249, 3) := by decide +kernel
theorem dX11_today_39 : decode cX11_today 39 = .ok (.istore 4, 2) := by decide +kernel
theorem dX11_today_41 : decode cX11_today 41 = .ok (.iinc 3 1, 3) := by decide +kernel
theorem dX11_today_44 : decode cX11_today 44 = .ok (.goto (-18), 3) := by decide +kernel
theorem dX11_today_47 : decode cX11_today 47 = .ok (.iload_n 2, 1) := by decide +kernel
theorem dX11_today_48 : decode cX11_today 48 = .ok (.ireturn, 1) := by decide +kernel
theorem dX11_comes_0 : decode cX11_comes 0 = .ok (.aload_n 0, 1) := by decide +kernel
theorem dX11_comes_1 : decode cX11_comes 1 = .ok (.getfield 53, 3) := by decide +kernel
theorem dX11_comes_4 : decode cX11_comes 4 = .ok (.iload_n 1, 1) := by decide +kernel
theorem dX11_comes_5 : decode cX11_comes 5 = .ok (.iload_n 2, 1) := by decide +kernel
theorem dX11_comes_6 : decode cX11_comes 6 = .ok (.iastore, 1) := by decide +kernel
theorem dX11_comes_7 : decode cX11_comes 7 = .ok (.aload_n 0, 1) := by decide +kernel
theorem dX11_comes_8 : decode cX11_comes 8 = .ok (.getfield 74, 3) := by decide +kernel
theorem dX11_comes_11 : decode cX11_comes 11 = .ok (.iload_n 1, 1) := by decide +kernel
theorem dX11_comes_12 : decode cX11_comes 12 = .ok (.iconst 0, 1) := by decide +kernel
theorem dX11_comes_13 : decode cX11_comes 13 = .ok (.iastore, 1) := by decide +kernel
theorem dX11_comes_14 : decode cX11_comes 14 = .ok (.aload_n 0, 1) := by decide +kernel
theorem dX11_comes_15 : decode cX11_comes 15 = .ok (.iload_n 1, 1) := by decide +kernel
theorem dX11_comes_16 : decode cX11_comes 16 = .ok (.invokevirtual 249, 3) := by decide +kernel
theorem dX11_comes_19 : decode cX11_comes 19 = .ok (.ireturn, 1) := by decide +kernel
theorem dX11_go_0 : decode cX11_go 0 = .ok (.aload_n 0, 1) := by decide +kernel
theorem dX11_go_1 : decode cX11_go 1 = .ok (.iload_n 1, 1) := by decide +kernel
theorem dX11_go_2 : decode cX11_go 2 = .ok (.invokevirtual 252, 3) := by decide +kernel
theorem dX11_go_5 : decode cX11_go 5 = .ok (.ifCond .eq 11, 3) := by decide +kernel
theorem dX11_go_8 : decode cX11_go 8 = .ok (.aload_n 0, 1) := by decide +kernel
theorem dX11_go_9 : decode cX11_go 9 = .ok (.iload_n 2, 1) := by decide +kernel
theorem dX11_go_10 : decode cX11_go 10 = .ok (.invokevirtual 141, 3) := by decide +kernel
theorem dX11_go_13 : decode cX11_go 13 = .ok (.ifCond .ne 10, 3) := by decide +kernel
theorem dX11_go_16 : decode cX11_go 16 = .ok (.aload_n 0, 1) := by decide +kernel
theorem dX11_go_17 : decode cX11_go 17 = .ok (.ldc 131, 2) := by decide +kernel
theorem dX11_go_19 : decode cX11_go 19 = .ok (.invokevirtual 132, 3) := by decide +kernel
theorem dX11_go_22 : decode cX11_go 22 = .ok (.ireturn, 1) := by decide +kernel
theorem dX11_go_23 : decode cX11_go 23 = .ok (.aload_n 0, 1) := by decide +kernel
theorem dX11_go_24 : decode cX11_go 24 = .ok (.iload_n 1, 1) := by decide +kernel
theorem dX11_go_25 : decode cX11_go 25 = .ok (.invokevirtual 255, 3) := by decide +kernel
theorem dX11_go_28 : decode cX11_go 28 = .ok (.ifCond .eq 10, 3) := by decide +kernel
theorem dX11_go_31 : decode cX11_go 31 = .ok (.aload_n 0, 1) := by decide +kernel
theorem dX11_go_32 : decode cX11_go 32 = .ok (.ldc 248, 2) := by decide +kernel
theorem dX11_go_34 : decode cX11_go 34 = .ok (.invokevirtual 132, 3) := by decide +kernel
theorem dX11_go_37 : decode cX11_go 37 = .ok (.ireturn, 1) := by decide +kernel
theorem dX11_go_38 : decode cX11_go 38 = .ok (.aload_n 0, 1) := by decide +kernel
theorem dX11_go_39 : decode cX11_go 39 = .ok (.getfield 53, 3) := by decide +kernel
theorem dX11_go_42 : decode cX11_go 42 = .ok (.iload_n 1, 1) := by decide +kernel
theorem dX11_go_43 : decode cX11_go 43 = .ok (.iaload, 1) := by decide +kernel
theorem dX11_go_44 : decode cX11_go 44 = .ok (.istore_n 3, 1) := by decide +kernel
theorem dX11_go_45 : decode cX11_go 45 = .ok (.aload_n 0, 1) := by decide +kernel
theorem dX11_go_46 : decode cX11_go 46 = .ok (.getfield 16, 3) := by decide +kernel
theorem dX11_go_49 : decode cX11_go 49 = .ok (.iload_n 2, 1) := by decide +kernel
theorem dX11_go_50 : decode cX11_go 50 = .ok (.iaload, 1) := by decide +kernel
theorem dX11_go_51 : decode cX11_go 51 = .ok (.iload_n 3, 1) := by decide +kernel
theorem dX11_go_52 : decode cX11_go 52 = .ok (.if_icmp .eq 13, 3) := by decide +kernel
theorem dX11_go_55 : decode cX11_go 55 = .ok (.aload_n 0, 1) := by decide +kernel
theorem dX11_go_56 : decode cX11_go 56 = .ok (.getfield 19, 3) := by decide +kernel
theorem dX11_go_59 : decode cX11_go 59 = .ok (.iload_n 2, 1) := by decide +kernel
theorem dX11_go_60 : decode cX11_go 60 = .ok (.iaload, 1) := by decide +kernel
theorem dX11_go_61 : decode cX11_go 61 = .ok (.iload_n 3, 1) := by decide +kernel
theorem dX11_go_62 : decode cX11_go 62 = .ok (.if_icmp .ne 20, 3) := by decide +kernel
theorem dX11_go_65 : decode cX11_go 65 = .ok (.aload_n 0, 1) := by decide +kernel
theorem dX11_go_66 : decode cX11_go 66 = .ok (.getfield 29, 3) := by decide +kernel
theorem dX11_go_69 : decode cX11_go 69 = .ok (.iload_n 2, 1) := by decide +kernel
theorem dX11_go_70 : decode cX11_go 70 = .ok (.iaload, 1) := by decide +kernel
theorem dX11_go_71 : decode cX11_go 71 = .ok (.aload_n 0, 1) := by decide +kernel
theorem dX11_go_72 : decode cX11_go 72 = .ok (.getfield 245, 3) := by decide +kernel
theorem dX11_go_75 : decode cX11_go 75 = .ok (.ishr, 1) := by decide +kernel
theorem dX11_go_76 : decode cX11_go 76 = .ok (.iconst 1, 1) := by decide +kernel
theorem dX11_go_77 : decode cX11_go 77 = .ok (.iand, 1) := by decide +kernel
theorem dX11_go_78 : decode cX11_go 78 = .ok (.iconst 1, 1) := by decide +kernel
theorem dX11_go_79 : decode cX11_go 79 = .ok (.if_icmp .ne 10, 3) := by decide +kernel
theorem dX11_go_82 : decode cX11_go 82 = .ok (.aload_n 0, 1) := by decide +kernel
theorem dX11_go_83 : decode cX11_go 83 = .ok (.ldc 158, 2) := by decide +kernel
theorem dX11_go_85 : decode cX11_go 85 = .ok (.invokevirtual 132, 3) := by decide +kernel
theorem dX11_go_88 : decode cX11_go 88 = .ok (.ireturn, 1) := by decide +kernel
theorem dX11_go_89 : decode cX11_go 89 = .ok (.aload_n 0, 1) := by decide +kernel
theorem dX11_go_90 : decode cX11_go 90 = .ok (.getfield 25, 3) := by decide +kernel
theorem dX11_go_93 : decode cX11_go 93 = .ok (.iload_n 2, 1) := by decide +kernel
theorem dX11_go_94 : decode cX11_go 94 = .ok (.baload, 1) := by decide +kernel
theorem dX11_go_95 : decode cX11_go 95 = .ok (.ifCond .eq 19, 3) := by decide +kernel
theorem dX11_go_98 : decode cX11_go 98 = .ok (.aload_n 0, 1) := by decide +kernel
theorem dX11_go_99 : decode cX11_go 99 = .ok (.getfield 65, 3) := by decide +kernel
theorem dX11_go_102 : decode cX11_go 102 = .ok (.iload_n 1, 1) := by decide +kernel
theorem dX11_go_103 : decode cX11_go 103 = .ok (.baload, 1) := by decide +kernel
theorem dX11_go_104 : decode cX11_go 104 = .ok (.ifCond .ne 10, 3) := by decide +kernel
theorem dX11_go_107 : decode cX11_go 107 = .ok (.aload_n 0, 1) := by decide +kernel
theorem dX11_go_108 : decode cX11_go 108 = .ok (.ldc 198, 2) := by decide +kernel
theorem dX11_go_110 : decode cX11_go 110 = .ok (.invokevirtual 132, 3) := by decide +kernel
theorem dX11_go_113 : decode cX11_go 113 = .ok (.ireturn, 1) := by decide +kernel
theorem dX11_go_114 : decode cX11_go 114 = .ok (.aload_n 0, 1) := by decide +kernel
theorem dX11_go_115 : decode cX11_go 115 = .ok (.getfield 59, 3) := by decide +kernel
theorem dX11_go_118 : decode cX11_go 118 = .ok (.iload_n 1, 1) := by decide +kernel
theorem dX11_go_119 : decode cX11_go 119 = .ok (.dup2, 1) := by decide +kernel
theorem dX11_go_120 : decode cX11_go 120 = .ok (.iaload, 1) := by decide +kernel
theorem dX11_go_121 : decode cX11_go 121 = .ok (.aload_n 0, 1) := by decide +kernel
theorem dX11_go_122 : decode cX11_go 122 = .ok (.getfield 22, 3) := by decide +kernel
theorem dX11_go_125 : decode cX11_go 125 = .ok (.iload_n 2, 1) := by decide +kernel
theorem dX11_go_126 : decode cX11_go 126 = .ok (.iaload, 1) := by decide +kernel
theorem dX11_go_127 : decode cX11_go 127 = .ok (.iadd, 1) := by decide +kernel
theorem dX11_go_128 : decode cX11_go 128 = .ok (.iastore, 1) := by decide +kernel
theorem dX11_go_129 : decode cX11_go 129 = .ok (.aload_n 0, 1) := by decide +kernel
theorem dX11_go_130 : decode cX11_go 130 = .ok (.iload_n 1, 1) := by decide +kernel
theorem dX11_go_131 : decode cX11_go 131 = .ok (.aload_n 0, 1) := by decide +kernel
theorem dX11_go_132 : decode cX11_go 132 = .ok (.getfield 16, 3) := by decide +kernel
theorem dX11_go_135 : decode cX11_go 135 = .ok (.iload_n 2, 1) := by decide +kernel
theorem dX11_go_136 : decode cX11_go 136 = .ok (.iaload, 1) := by decide +kernel
theorem dX11_go_137 : decode cX11_go 137 = .ok (.aload_n 0, 1) := by decide +kernel
theorem dX11_go_138 : decode cX11_go 138 = .ok (.getfield 19, 3) := by decide +kernel
theorem dX11_go_141 : decode cX11_go 141 = .ok (.iload_n 2, 1) := by decide +kernel
theorem dX11_go_142 : decode cX11_go 142 = .ok (.iaload, 1) := by decide +kernel
theorem dX11_go_143 : decode cX11_go 143 = .ok (.iadd, 1) := by decide +kernel
theorem dX11_go_144 : decode cX11_go 144 = .ok (.iload_n 3, 1) := by decide +kernel
theorem dX11_go_145 : decode cX11_go 145 = .ok (.isub, 1) := by decide +kernel
theorem dX11_go_146 : decode cX11_go 146 = .ok (.invokevirtual 258, 3) := by decide +kernel
theorem dX11_go_149 : decode cX11_go 149 = .ok (.ireturn, 1) := by decide +kernel
theorem dX11_about_0 : decode cX11_about 0 = .ok (.aload_n 0, 1) := by decide +kernel
theorem dX11_about_1 : decode cX11_about 1 = .ok (.iload_n 1, 1) := by decide +kernel
theorem dX11_about_2 : decode cX11_about 2 = .ok (.invokevirtual 252, 3) := by decide +kernel
theorem dX11_about_5 : decode cX11_about 5 = .ok (.ifCond .ne 10, 3) := by decide +kernel
theorem dX11_about_8 : decode cX11_about 8 = .ok (.aload_n 0, 1) := by decide +kernel
theorem dX11_about_9 : decode cX11_about 9 = .ok (.ldc 131, 2) := by decide +kernel
theorem dX11_about_11 : decode cX11_about 11 = .ok (.invokevirtual 132, 3) := by decide +kernel
theorem dX11_about_14 : decode cX11_about 14 = .ok (.ireturn, 1) := by decide +kernel
theorem dX11_about_15 : decode cX11_about 15 = .ok (.iload_n 2, 1) := by decide +kernel
theorem dX11_about_16 : decode cX11_about 16 = .ok (.tableswitch 89 0 5 #[40, 47, 54, 61, 68, 82], 40) := by decide +kernel
theorem dX11_about_56 : decode cX11_about 56 = .ok (.aload_n 0, 1) := by decide +kernel
theorem dX11_about_57 : decode cX11_about 57 = .ok (.getfield 53, 3) := by decide +kernel
theorem dX11_about_60 : decode cX11_about 60 = .ok (.iload_n 1, 1) := by decide +kernel
theorem dX11_about_61 : decode cX11_about 61 = .ok (.iaload, 1) := by decide +kernel
theorem dX11_about_62 : decode cX11_about 62 = .ok (.ireturn, 1) := by decide +kernel
theorem dX11_about_63 : decode cX11_about 63 = .ok (.aload_n 0, 1) := by decide +kernel
theorem dX11_about_64 : decode cX11_about 64 = .ok (.getfield 56, 3) := by decide +kernel
theorem dX11_about_67 : decode cX11_about 67 = .ok (.iload_n 1, 1) := by decide +kernel
theorem dX11_about_68 : decode cX11_about 68 = .ok (.iaload, 1) := by decide +kernel
theorem dX11_about_69 : decode cX11_about 69 = .ok (.ireturn, 1) := by decide +kernel
theorem dX11_about_70 : decode cX11_about 70 = .ok (.aload_n 0, 1) := by decide +kernel
theorem dX11_about_71 : decode cX11_about 71 = .ok (.getfield 59, 3) := by decide +kernel
theorem dX11_about_74 : decode cX11_about 74 = .ok (.iload_n 1, 1) := by decide +kernel
theorem dX11_about_75 : decode cX11_about 75 = .ok (.iaload, 1) := by decide +kernel
theorem dX11_about_76 : decode cX11_about 76 = .ok (.ireturn, 1) := by decide +kernel
theorem dX11_about_77 : decode cX11_about 77 = .ok (.aload_n 0, 1) := by decide +kernel
theorem dX11_about_78 : decode cX11_about 78 = .ok (.getfield 62, 3) := by decide +kernel
theorem dX11_about_81 : decode cX11_about 81 = .ok (.iload_n 1, 1) := by decide +kernel
theorem dX11_about_82 : decode cX11_about 82 = .ok (.iaload, 1) := by decide +kernel
theorem dX11_about_83 : decode cX11_about 83 = .ok (.ireturn, 1) := by decide +kernel
theorem dX11_about_84 : decode cX11_about 84 = .ok (.aload_n 0, 1) := by decide +kernel
theorem dX11_about_85 : decode cX11_about 85 = .ok (.iload_n 1, 1) := by decide +kernel
theorem dX11_about_86 : decode cX11_about 86 = .ok (.invokevirtual 255, 3) := by decide +kernel
theorem dX11_about_89 : decode cX11_about 89 = .ok (.ifCond .eq 7, 3) := by decide +kernel
theorem dX11_about_92 : decode cX11_about 92 = .ok (.iconst 1, 1) := by decide +kernel
theorem dX11_about_93 : decode cX11_about 93 = .ok (.goto 4, 3) := by decide +kernel
theorem dX11_about_96 : decode cX11_about 96 = .ok (.iconst 0, 1) := by decide +kernel
theorem dX11_about_97 : decode cX11_about 97 = .ok (.ireturn, 1) := by decide +kernel
theorem dX11_about_98 : decode cX11_about 98 = .ok (.aload_n 0, 1) := by decide +kernel
theorem dX11_about_99 : decode cX11_about 99 = .ok (.getfield 68, 3) := by decide +kernel
theorem dX11_about_102 : decode cX11_about 102 = .ok (.iload_n 1, 1) := by decide +kernel
theorem dX11_about_103 : decode cX11_about 103 = .ok (.iaload, 1) := by decide +kernel
theorem dX11_about_104 : decode cX11_about 104 = .ok (.ireturn, 1) := by decide +kernel
theorem dX11_about_105 : decode cX11_about 105 = .ok (.aload_n 0, 1) := by decide +kernel
theorem dX11_about_106 : decode cX11_about 106 = .ok (.ldc 131, 2) := by decide +kernel
theorem dX11_about_108 : decode cX11_about 108 = .ok (.invokevirtual 132, 3) := by decide +kernel
theorem dX11_about_111 : decode cX11_about 111 = .ok (.ireturn, 1) := by decide +kernel
theorem dX11_wayTo_0 : decode cX11_wayTo 0 = .ok (.ldc 147, 2) := by decide +kernel
theorem dX11_wayTo_2 : decode cX11_wayTo 2 = .ok (.istore_n 3, 1) := by decide +kernel
theorem dX11_wayTo_3 : decode cX11_wayTo 3 = .ok (.iconst 0, 1) := by decide +kernel
theorem dX11_wayTo_4 : decode cX11_wayTo 4 = .ok (.istore 4, 2) := by decide +kernel
theorem dX11_wayTo_6 : decode cX11_wayTo 6 = .ok (.iload 4, 2) := by decide +kernel
theorem dX11_wayTo_8 : decode cX11_wayTo 8 = .ok (.aload_n 0, 1) := by decide +kernel
theorem dX11_wayTo_9 : decode cX11_wayTo 9 = .ok (.getfield 125, 3) := by decide +kernel
theorem dX11_wayTo_12 : decode cX11_wayTo 12 = .ok (.if_icmp .ge 110, 3) := by decide +kernel
theorem dX11_wayTo_15 : decode cX11_wayTo 15 = .ok (.aload_n 0, 1) := by decide +kernel
theorem dX11_wayTo_16 : decode cX11_wayTo 16 = .ok (.getfield 16, 3) := by decide +kernel
theorem dX11_wayTo_19 : decode cX11_wayTo 19 = .ok (.iload 4, 2) := by decide +kernel
theorem dX11_wayTo_21 : decode cX11_wayTo 21 = .ok (.iaload, 1) := by decide +kernel
theorem dX11_wayTo_22 : decode cX11_wayTo 22 = .ok (.aload_n 0, 1) := by decide +kernel
theorem dX11_wayTo_23 : decode cX11_wayTo 23 = .ok (.getfield 53, 3) := by decide +kernel
theorem dX11_wayTo_26 : decode cX11_wayTo 26 = .ok (.iload_n 1, 1) := by decide +kernel
theorem dX11_wayTo_27 : decode cX11_wayTo 27 = .ok (.iaload, 1) := by decide +kernel
theorem dX11_wayTo_28 : decode cX11_wayTo 28 = .ok (.if_icmp .ne 14, 3) := by decide +kernel
theorem dX11_wayTo_31 : decode cX11_wayTo 31 = .ok (.aload_n 0, 1) := by decide +kernel
theorem dX11_wayTo_32 : decode cX11_wayTo 32 = .ok (.getfield 19, 3) := by decide +kernel
theorem dX11_wayTo_35 : decode cX11_wayTo 35 = .ok (.iload 4, 2) := by decide +kernel
theorem dX11_wayTo_37 : decode cX11_wayTo 37 = .ok (.iaload, 1) := by decide +kernel
theorem dX11_wayTo_38 : decode cX11_wayTo 38 = .ok (.iload_n 2, 1) := by decide +kernel
theorem dX11_wayTo_39 : decode cX11_wayTo 39 = .ok (.if_icmp .eq 30, 3) := by decide +kernel
theorem dX11_wayTo_42 : decode cX11_wayTo 42 = .ok (.aload_n 0, 1) := by decide +kernel
theorem dX11_wayTo_43 : decode cX11_wayTo 43 = .ok (.getfield 19, 3) := by decide +kernel
theorem dX11_wayTo_46 : decode cX11_wayTo 46 = .ok (.iload 4, 2) := by decide +kernel
theorem dX11_wayTo_48 : decode cX11_wayTo 48 = .ok (.iaload, 1) := by decide +kernel
theorem dX11_wayTo_49 : decode cX11_wayTo 49 = .ok (.aload_n 0, 1) := by decide +kernel
theorem dX11_wayTo_50 : decode cX11_wayTo 50 = .ok (.getfield 53, 3) := by decide +kernel
theorem dX11_wayTo_53 : decode cX11_wayTo 53 = .ok (.iload_n 1, 1) := by decide +kernel
theorem dX11_wayTo_54 : decode cX11_wayTo 54 = .ok (.iaload, 1) := by decide +kernel
theorem dX11_wayTo_55 : decode cX11_wayTo 55 = .ok (.if_icmp .ne 18, 3) := by decide +kernel
theorem dX11_wayTo_58 : decode cX11_wayTo 58 = .ok (.aload_n 0, 1) := by decide +kernel
theorem dX11_wayTo_59 : decode cX11_wayTo 59 = .ok (.getfield 16, 3) := by decide +kernel
theorem dX11_wayTo_62 : decode cX11_wayTo 62 = .ok (.iload 4, 2) := by decide +kernel
theorem dX11_wayTo_64 : decode cX11_wayTo 64 = .ok (.iaload, 1) := by decide +kernel
theorem dX11_wayTo_65 : decode cX11_wayTo 65 = .ok (.iload_n 2, 1) := by decide +kernel
theorem dX11_wayTo_66 : decode cX11_wayTo 66 = .ok (.if_icmp .ne 7, 3) := by decide +kernel
theorem dX11_wayTo_69 : decode cX11_wayTo 69 = .ok (.iconst 1, 1) := by decide +kernel
theorem dX11_wayTo_70 : decode cX11_wayTo 70 = .ok (.goto 4, 3) := by decide +kernel
theorem dX11_wayTo_73 : decode cX11_wayTo 73 = .ok (.iconst 0, 1) := by decide +kernel
theorem dX11_wayTo_74 : decode cX11_wayTo 74 = .ok (.istore 5, 2) := by decide +kernel
theorem dX11_wayTo_76 : decode cX11_wayTo 76 = .ok (.iload 5, 2) := by decide +kernel
theorem dX11_wayTo_78 : decode cX11_wayTo 78 = .ok (.ifCond .eq 36, 3) := by decide +kernel
theorem dX11_wayTo_81 : decode cX11_wayTo 81 = .ok (.aload_n 0, 1) := by decide +kernel
theorem dX11_wayTo_82 : decode cX11_wayTo 82 = .ok (.iload 4, 2) := by decide +kernel
theorem dX11_wayTo_84 : decode cX11_wayTo 84 = .ok (.aload_n 0, 1) := by decide +kernel
theorem dX11_wayTo_85 : decode cX11_wayTo 85 = .ok (.getfield 245, 3) := by decide +kernel
theorem dX11_wayTo_88 : decode cX11_wayTo 88 = .ok (.aload_n 0, 1) := by decide +kernel
theorem dX11_wayTo_89 : decode cX11_wayTo 89 = .ok (.getfield 65, 3) := by decide +kernel
theorem dX11_wayTo_92 : decode cX11_wayTo 92 = .ok (.iload_n 1, 1) := by decide +kernel
theorem dX11_wayTo_93 : decode cX11_wayTo 93 = .ok (.baload, 1) := by decide +kernel
theorem dX11_wayTo_94 : decode cX11_wayTo 94 = .ok (.invokevirtual 148, 3) := by decide +kernel
theorem dX11_wayTo_97 : decode cX11_wayTo 97 = .ok (.ifCond .eq 17, 3) := by decide +kernel
theorem dX11_wayTo_100 : decode cX11_wayTo 100 = .ok (.iload_n 3, 1) := by decide +kernel
theorem dX11_wayTo_101 : decode cX11_wayTo 101 = .ok (.aload_n 0, 1) := by decide +kernel
theorem dX11_wayTo_102 : decode cX11_wayTo 102 = .ok (.getfield 22, 3) := by decide +kernel
theorem dX11_wayTo_105 : decode cX11_wayTo 105 = .ok (.iload 4, 2) := by decide +kernel
theorem dX11_wayTo_107 : decode cX11_wayTo 107 = .ok (.iaload, 1) := by decide +kernel
theorem dX11_wayTo_108 : decode cX11_wayTo 108 = .ok (.invokestatic 152, 3) := by decide +kernel
theorem dX11_wayTo_111 : decode cX11_wayTo 111 = .ok (.goto 4, 3) := by decide +kernel
theorem dX11_wayTo_114 : decode cX11_wayTo 114 = .ok (.iload_n 3, 1) := by decide +kernel
theorem dX11_wayTo_115 : decode cX11_wayTo 115 = .ok (.istore_n 3, 1) := by decide +kernel
theorem dX11_wayTo_116 : decode cX11_wayTo 116 = .ok (.iinc 4 1, 3) := by decide +kernel
theorem dX11_wayTo_119 : decode cX11_wayTo 119 = .ok (.goto (-113), 3) := by decide +kernel
theorem dX11_wayTo_122 : decode cX11_wayTo 122 = .ok (.iload_n 3, 1) := by decide +kernel
theorem dX11_wayTo_123 : decode cX11_wayTo 123 = .ok (.ireturn, 1) := by decide +kernel
theorem dX11_othersAt_0 : decode cX11_othersAt 0 = .ok (.iconst 0, 1) := by decide +kernel
theorem dX11_othersAt_1 : decode cX11_othersAt 1 = .ok (.istore_n 3, 1) := by decide +kernel
theorem dX11_othersAt_2 : decode cX11_othersAt 2 = .ok (.iconst 0, 1) := by decide +kernel
theorem dX11_othersAt_3 : decode cX11_othersAt 3 = .ok (.istore 4, 2) := by decide +kernel
theorem dX11_othersAt_5 : decode cX11_othersAt 5 = .ok (.iload 4, 2) := by decide +kernel
theorem dX11_othersAt_7 : decode cX11_othersAt 7 = .ok (.aload_n 0, 1) := by decide +kernel
theorem dX11_othersAt_8 : decode cX11_othersAt 8 = .ok (.getfield 128, 3) := by decide +kernel
theorem dX11_othersAt_11 : decode cX11_othersAt 11 = .ok (.if_icmp .ge 43, 3) := by decide +kernel
theorem dX11_othersAt_14 : decode cX11_othersAt 14 = .ok (.iload_n 3, 1) := by decide +kernel
theorem dX11_othersAt_15 : decode cX11_othersAt 15 = .ok (.iload 4, 2) := by decide +kernel
theorem dX11_othersAt_17 : decode cX11_othersAt 17 = .ok (.iload_n 1, 1) := by decide +kernel
theorem dX11_othersAt_18 : decode cX11_othersAt 18 = .ok (.if_icmp .eq 27, 3) := by decide +kernel
theorem dX11_othersAt_21 : decode cX11_othersAt 21 = .ok (.aload_n 0, 1) := by decide +kernel
theorem dX11_othersAt_22 : decode cX11_othersAt 22 = .ok (.getfield 53, 3) := by decide +kernel
theorem dX11_othersAt_25 : decode cX11_othersAt 25 = .ok (.iload 4, 2) := by decide +kernel
theorem dX11_othersAt_27 : decode cX11_othersAt 27 = .ok (.iaload, 1) := by decide +kernel
theorem dX11_othersAt_28 : decode cX11_othersAt 28 = .ok (.iload_n 2, 1) := by decide +kernel
theorem dX11_othersAt_29 : decode cX11_othersAt 29 = .ok (.if_icmp .ne 16, 3) := by decide +kernel
theorem dX11_othersAt_32 : decode cX11_othersAt 32 = .ok (.aload_n 0, 1) := by decide +kernel
theorem dX11_othersAt_33 : decode cX11_othersAt 33 = .ok (.iload 4, 2) := by decide +kernel
theorem dX11_othersAt_35 : decode cX11_othersAt 35 = .ok (.invokevirtual 255, 3) := by decide +kernel
theorem dX11_othersAt_38 : decode cX11_othersAt 38 = .ok (.ifCond .ne 7, 3) := by decide +kernel
theorem dX11_othersAt_41 : decode cX11_othersAt 41 = .ok (.iconst 1, 1) := by decide +kernel
theorem dX11_othersAt_42 : decode cX11_othersAt 42 = .ok (.goto 4, 3) := by decide +kernel
theorem dX11_othersAt_45 : decode cX11_othersAt 45 = .ok (.iconst 0, 1) := by decide +kernel
theorem dX11_othersAt_46 : decode cX11_othersAt 46 = .ok (.iadd, 1) := by decide +kernel
theorem dX11_othersAt_47 : decode cX11_othersAt 47 = .ok (.istore_n 3, 1) := by decide +kernel
theorem dX11_othersAt_48 : decode cX11_othersAt 48 = .ok (.iinc 4 1, 3) := by decide +kernel
theorem dX11_othersAt_51 : decode cX11_othersAt 51 = .ok (.goto (-46), 3) := by decide +kernel
theorem dX11_othersAt_54 : decode cX11_othersAt 54 = .ok (.iload_n 3, 1) := by decide +kernel
theorem dX11_othersAt_55 : decode cX11_othersAt 55 = .ok (.ireturn, 1) := by decide +kernel
theorem dX11_offer_0 : decode cX11_offer 0 = .ok (.aload_n 0, 1) := by decide +kernel
theorem dX11_offer_1 : decode cX11_offer 1 = .ok (.iload_n 1, 1) := by decide +kernel
theorem dX11_offer_2 : decode cX11_offer 2 = .ok (.invokevirtual 252, 3) := by decide +kernel
theorem dX11_offer_5 : decode cX11_offer 5 = .ok (.ifCond .ne 10, 3) := by decide +kernel
theorem dX11_offer_8 : decode cX11_offer 8 = .ok (.aload_n 0, 1) := by decide +kernel
theorem dX11_offer_9 : decode cX11_offer 9 = .ok (.ldc 131, 2) := by decide +kernel
theorem dX11_offer_11 : decode cX11_offer 11 = .ok (.invokevirtual 132, 3) := by decide +kernel
theorem dX11_offer_14 : decode cX11_offer 14 = .ok (.ireturn, 1) := by decide +kernel
theorem dX11_offer_15 : decode cX11_offer 15 = .ok (.aload_n 0, 1) := by decide +kernel
theorem dX11_offer_16 : decode cX11_offer 16 = .ok (.iload_n 1, 1) := by decide +kernel
theorem dX11_offer_17 : decode cX11_offer 17 = .ok (.invokevirtual 255, 3) := by decide +kernel
theorem dX11_offer_20 : decode cX11_offer 20 = .ok (.ifCond .eq 10, 3) := by decide +kernel
theorem dX11_offer_23 : decode cX11_offer 23 = .ok (.aload_n 0, 1) := by decide +kernel
theorem dX11_offer_24 : decode cX11_offer 24 = .ok (.ldc 248, 2) := by decide +kernel
theorem dX11_offer_26 : decode cX11_offer 26 = .ok (.invokevirtual 132, 3) := by decide +kernel
theorem dX11_offer_29 : decode cX11_offer 29 = .ok (.ireturn, 1) := by decide +kernel
theorem dX11_offer_30 : decode cX11_offer 30 = .ok (.aload_n 0, 1) := by decide +kernel
theorem dX11_offer_31 : decode cX11_offer 31 = .ok (.aload_n 0, 1) := by decide +kernel
theorem dX11_offer_32 : decode cX11_offer 32 = .ok (.getfield 62, 3) := by decide +kernel
theorem dX11_offer_35 : decode cX11_offer 35 = .ok (.iload_n 1, 1) := by decide +kernel
theorem dX11_offer_36 : decode cX11_offer 36 = .ok (.iaload, 1) := by decide +kernel
theorem dX11_offer_37 : decode cX11_offer 37 = .ok (.aload_n 0, 1) := by decide +kernel
theorem dX11_offer_38 : decode cX11_offer 38 = .ok (.getfield 245, 3) := by decide +kernel
theorem dX11_offer_41 : decode cX11_offer 41 = .ok (.aload_n 0, 1) := by decide +kernel
theorem dX11_offer_42 : decode cX11_offer 42 = .ok (.getfield 65, 3) := by decide +kernel
theorem dX11_offer_45 : decode cX11_offer 45 = .ok (.iload_n 1, 1) := by decide +kernel
theorem dX11_offer_46 : decode cX11_offer 46 = .ok (.baload, 1) := by decide +kernel
theorem dX11_offer_47 : decode cX11_offer 47 = .ok (.invokevirtual 231, 3) := by decide +kernel
theorem dX11_offer_50 : decode cX11_offer 50 = .ok (.iconst (-1), 1) := by decide +kernel
theorem dX11_offer_51 : decode cX11_offer 51 = .ok (.istore_n 2, 1) := by decide +kernel
theorem dX11_offer_52 : decode cX11_offer 52 = .ok (.iconst 0, 1) := by decide +kernel
theorem dX11_offer_53 : decode cX11_offer 53 = .ok (.istore_n 3, 1) := by decide +kernel
theorem dX11_offer_54 : decode cX11_offer 54 = .ok (.iconst 0, 1) := by decide +kernel
theorem dX11_offer_55 : decode cX11_offer 55 = .ok (.istore 4, 2) := by decide +kernel
theorem dX11_offer_57 : decode cX11_offer 57 = .ok (.iconst 0, 1) := by decide +kernel
theorem dX11_offer_58 : decode cX11_offer 58 = .ok (.istore 5, 2) := by decide +kernel
theorem dX11_offer_60 : decode cX11_offer 60 = .ok (.iload 5, 2) := by decide +kernel
theorem dX11_offer_62 : decode cX11_offer 62 = .ok (.aload_n 0, 1) := by decide +kernel
theorem dX11_offer_63 : decode cX11_offer 63 = .ok (.getfield 118, 3) := by decide +kernel
theorem dX11_offer_66 : decode cX11_offer 66 = .ok (.if_icmp .ge 98, 3) := by decide +kernel
theorem dX11_offer_69 : decode cX11_offer 69 = .ok (.aload_n 0, 1) := by decide +kernel
theorem dX11_offer_70 : decode cX11_offer 70 = .ok (.iload_n 1, 1) := by decide +kernel
theorem dX11_offer_71 : decode cX11_offer 71 = .ok (.iload 5, 2) := by decide +kernel
theorem dX11_offer_73 : decode cX11_offer 73 = .ok (.invokevirtual 261, 3) := by decide +kernel
theorem dX11_offer_76 : decode cX11_offer 76 = .ok (.istore 6, 2) := by decide +kernel
theorem dX11_offer_78 : decode cX11_offer 78 = .ok (.iload 6, 2) := by decide +kernel
theorem dX11_offer_80 : decode cX11_offer 80 = .ok (.aload_n 0, 1) := by decide +kernel
theorem dX11_offer_81 : decode cX11_offer 81 = .ok (.getfield 102, 3) := by decide +kernel
theorem dX11_offer_84 : decode cX11_offer 84 = .ok (.iload 5, 2) := by decide +kernel
theorem dX11_offer_86 : decode cX11_offer 86 = .ok (.aload_n 0, 1) := by decide +kernel
theorem dX11_offer_87 : decode cX11_offer 87 = .ok (.getfield 56, 3) := by decide +kernel
theorem dX11_offer_90 : decode cX11_offer 90 = .ok (.iload_n 1, 1) := by decide +kernel
theorem dX11_offer_91 : decode cX11_offer 91 = .ok (.iaload, 1) := by decide +kernel
theorem dX11_offer_92 : decode cX11_offer 92 = .ok (.invokestatic 210, 3) := by decide +kernel
theorem dX11_offer_95 : decode cX11_offer 95 = .ok (.iaload, 1) := by decide +kernel
theorem dX11_offer_96 : decode cX11_offer 96 = .ok (.iadd, 1) := by decide +kernel
theorem dX11_offer_97 : decode cX11_offer 97 = .ok (.istore 7, 2) := by decide +kernel
theorem dX11_offer_99 : decode cX11_offer 99 = .ok (.iload 6, 2) := by decide +kernel
theorem dX11_offer_101 : decode cX11_offer 101 = .ok (.ldc 147, 2) := by decide +kernel
theorem dX11_offer_103 : decode cX11_offer 103 = .ok (.if_icmp .ge 55, 3) := by decide +kernel
theorem dX11_offer_106 : decode cX11_offer 106 = .ok (.iload 7, 2) := by decide +kernel
theorem dX11_offer_108 : decode cX11_offer 108 = .ok (.ldc 147, 2) := by decide +kernel
theorem dX11_offer_110 : decode cX11_offer 110 = .ok (.if_icmp .lt 6, 3) := by decide +kernel
theorem dX11_offer_113 : decode cX11_offer 113 = .ok (.goto 45, 3) := by decide +kernel
theorem dX11_offer_116 : decode cX11_offer 116 = .ok (.aload_n 0, 1) := by decide +kernel
theorem dX11_offer_117 : decode cX11_offer 117 = .ok (.iload_n 1, 1) := by decide +kernel
theorem dX11_offer_118 : decode cX11_offer 118 = .ok (.iload 5, 2) := by decide +kernel
theorem dX11_offer_120 : decode cX11_offer 120 = .ok (.invokevirtual 264, 3) := by decide +kernel
theorem dX11_offer_123 : decode cX11_offer 123 = .ok (.istore 8, 2) := by decide +kernel
theorem dX11_offer_125 : decode cX11_offer 125 = .ok (.iload_n 2, 1) := by decide +kernel
theorem dX11_offer_126 : decode cX11_offer 126 = .ok (.ifCond .lt 22, 3) := by decide +kernel
theorem dX11_offer_129 : decode cX11_offer 129 = .ok (.iload 8, 2) := by decide +kernel
theorem dX11_offer_131 : decode cX11_offer 131 = .ok (.iload_n 3, 1) := by decide +kernel
theorem dX11_offer_132 : decode cX11_offer 132 = .ok (.if_icmp .lt 16, 3) := by decide +kernel
theorem dX11_offer_135 : decode cX11_offer 135 = .ok (.iload 8, 2) := by decide +kernel
theorem dX11_offer_137 : decode cX11_offer 137 = .ok (.iload_n 3, 1) := by decide +kernel
theorem dX11_offer_138 : decode cX11_offer 138 = .ok (.if_icmp .ne 20, 3) := by decide +kernel
theorem dX11_offer_141 : decode cX11_offer 141 = .ok (.iload 7, 2) := by decide +kernel
theorem dX11_offer_143 : decode cX11_offer 143 = .ok (.iload 4, 2) := by decide +kernel
theorem dX11_offer_145 : decode cX11_offer 145 = .ok (.if_icmp .ge 13, 3) := by decide +kernel
theorem dX11_offer_148 : decode cX11_offer 148 = .ok (.iload 5, 2) := by decide +kernel
theorem dX11_offer_150 : decode cX11_offer 150 = .ok (.istore_n 2, 1) := by decide +kernel
theorem dX11_offer_151 : decode cX11_offer 151 = .ok (.iload 8, 2) := by decide +kernel
theorem dX11_offer_153 : decode cX11_offer 153 = .ok (.istore_n 3, 1) := by decide +kernel
theorem dX11_offer_154 : decode cX11_offer 154 = .ok (.iload 7, 2) := by decide +kernel
theorem dX11_offer_156 : decode cX11_offer 156 = .ok (.istore 4, 2) := by decide +kernel
theorem dX11_offer_158 : decode cX11_offer 158 = .ok (.iinc 5 1, 3) := by decide +kernel
theorem dX11_offer_161 : decode cX11_offer 161 = .ok (.goto (-101), 3) := by decide +kernel
theorem dX11_offer_164 : decode cX11_offer 164 = .ok (.iload_n 2, 1) := by decide +kernel
theorem dX11_offer_165 : decode cX11_offer 165 = .ok (.ifCond .ge 12, 3) := by decide +kernel
theorem dX11_offer_168 : decode cX11_offer 168 = .ok (.aload_n 0, 1) := by decide +kernel
theorem dX11_offer_169 : decode cX11_offer 169 = .ok (.ldc 158, 2) := by decide +kernel
theorem dX11_offer_171 : decode cX11_offer 171 = .ok (.invokevirtual 132, 3) := by decide +kernel
theorem dX11_offer_174 : decode cX11_offer 174 = .ok (.goto 4, 3) := by decide +kernel
theorem dX11_offer_177 : decode cX11_offer 177 = .ok (.iload_n 2, 1) := by decide +kernel
theorem dX11_offer_178 : decode cX11_offer 178 = .ok (.ireturn, 1) := by decide +kernel
theorem dX11_rest_0 : decode cX11_rest 0 = .ok (.aload_n 0, 1) := by decide +kernel
theorem dX11_rest_1 : decode cX11_rest 1 = .ok (.iload_n 1, 1) := by decide +kernel
theorem dX11_rest_2 : decode cX11_rest 2 = .ok (.invokevirtual 252, 3) := by decide +kernel
theorem dX11_rest_5 : decode cX11_rest 5 = .ok (.ifCond .ne 10, 3) := by decide +kernel
theorem dX11_rest_8 : decode cX11_rest 8 = .ok (.aload_n 0, 1) := by decide +kernel
theorem dX11_rest_9 : decode cX11_rest 9 = .ok (.ldc 131, 2) := by decide +kernel
theorem dX11_rest_11 : decode cX11_rest 11 = .ok (.invokevirtual 132, 3) := by decide +kernel
theorem dX11_rest_14 : decode cX11_rest 14 = .ok (.ireturn, 1) := by decide +kernel
theorem dX11_rest_15 : decode cX11_rest 15 = .ok (.aload_n 0, 1) := by decide +kernel
theorem dX11_rest_16 : decode cX11_rest 16 = .ok (.aload_n 0, 1) := by decide +kernel
theorem dX11_rest_17 : decode cX11_rest 17 = .ok (.getfield 62, 3) := by decide +kernel
theorem dX11_rest_20 : decode cX11_rest 20 = .ok (.iload_n 1, 1) := by decide +kernel
theorem dX11_rest_21 : decode cX11_rest 21 = .ok (.iaload, 1) := by decide +kernel
theorem dX11_rest_22 : decode cX11_rest 22 = .ok (.aload_n 0, 1) := by decide +kernel
theorem dX11_rest_23 : decode cX11_rest 23 = .ok (.getfield 245, 3) := by decide +kernel
theorem dX11_rest_26 : decode cX11_rest 26 = .ok (.aload_n 0, 1) := by decide +kernel
theorem dX11_rest_27 : decode cX11_rest 27 = .ok (.getfield 65, 3) := by decide +kernel
theorem dX11_rest_30 : decode cX11_rest 30 = .ok (.iload_n 1, 1) := by decide +kernel
theorem dX11_rest_31 : decode cX11_rest 31 = .ok (.baload, 1) := by decide +kernel
theorem dX11_rest_32 : decode cX11_rest 32 = .ok (.invokevirtual 231, 3) := by decide +kernel
theorem dX11_rest_35 : decode cX11_rest 35 = .ok (.aload_n 0, 1) := by decide +kernel
theorem dX11_rest_36 : decode cX11_rest 36 = .ok (.getfield 102, 3) := by decide +kernel
theorem dX11_rest_39 : decode cX11_rest 39 = .ok (.aload_n 0, 1) := by decide +kernel
theorem dX11_rest_40 : decode cX11_rest 40 = .ok (.getfield 53, 3) := by decide +kernel
theorem dX11_rest_43 : decode cX11_rest 43 = .ok (.iload_n 1, 1) := by decide +kernel
theorem dX11_rest_44 : decode cX11_rest 44 = .ok (.iaload, 1) := by decide +kernel
theorem dX11_rest_45 : decode cX11_rest 45 = .ok (.aload_n 0, 1) := by decide +kernel
theorem dX11_rest_46 : decode cX11_rest 46 = .ok (.getfield 56, 3) := by decide +kernel
theorem dX11_rest_49 : decode cX11_rest 49 = .ok (.iload_n 1, 1) := by decide +kernel
theorem dX11_rest_50 : decode cX11_rest 50 = .ok (.iaload, 1) := by decide +kernel
theorem dX11_rest_51 : decode cX11_rest 51 = .ok (.invokestatic 210, 3) := by decide +kernel
theorem dX11_rest_54 : decode cX11_rest 54 = .ok (.iaload, 1) := by decide +kernel
theorem dX11_rest_55 : decode cX11_rest 55 = .ok (.istore_n 2, 1) := by decide +kernel
theorem dX11_rest_56 : decode cX11_rest 56 = .ok (.iload_n 2, 1) := by decide +kernel
theorem dX11_rest_57 : decode cX11_rest 57 = .ok (.ldc 147, 2) := by decide +kernel
theorem dX11_rest_59 : decode cX11_rest 59 = .ok (.if_icmp .lt 12, 3) := by decide +kernel
theorem dX11_rest_62 : decode cX11_rest 62 = .ok (.aload_n 0, 1) := by decide +kernel
theorem dX11_rest_63 : decode cX11_rest 63 = .ok (.ldc 158, 2) := by decide +kernel
theorem dX11_rest_65 : decode cX11_rest 65 = .ok (.invokevirtual 132, 3) := by decide +kernel
theorem dX11_rest_68 : decode cX11_rest 68 = .ok (.goto 4, 3) := by decide +kernel
theorem dX11_rest_71 : decode cX11_rest 71 = .ok (.iload_n 2, 1) := by decide +kernel
theorem dX11_rest_72 : decode cX11_rest 72 = .ok (.ireturn, 1) := by decide +kernel
theorem dX11_lost_0 : decode cX11_lost 0 = .ok (.aload_n 0, 1) := by decide +kernel
theorem dX11_lost_1 : decode cX11_lost 1 = .ok (.iload_n 1, 1) := by decide +kernel
theorem dX11_lost_2 : decode cX11_lost 2 = .ok (.invokevirtual 252, 3) := by decide +kernel
theorem dX11_lost_5 : decode cX11_lost 5 = .ok (.ifCond .ne 10, 3) := by decide +kernel
theorem dX11_lost_8 : decode cX11_lost 8 = .ok (.aload_n 0, 1) := by decide +kernel
theorem dX11_lost_9 : decode cX11_lost 9 = .ok (.ldc 131, 2) := by decide +kernel
theorem dX11_lost_11 : decode cX11_lost 11 = .ok (.invokevirtual 132, 3) := by decide +kernel
theorem dX11_lost_14 : decode cX11_lost 14 = .ok (.ireturn, 1) := by decide +kernel
theorem dX11_lost_15 : decode cX11_lost 15 = .ok (.aload_n 0, 1) := by decide +kernel
theorem dX11_lost_16 : decode cX11_lost 16 = .ok (.aload_n 0, 1) := by decide +kernel
theorem dX11_lost_17 : decode cX11_lost 17 = .ok (.getfield 62, 3) := by decide +kernel
theorem dX11_lost_20 : decode cX11_lost 20 = .ok (.iload_n 1, 1) := by decide +kernel
theorem dX11_lost_21 : decode cX11_lost 21 = .ok (.iaload, 1) := by decide +kernel
theorem dX11_lost_22 : decode cX11_lost 22 = .ok (.aload_n 0, 1) := by decide +kernel
theorem dX11_lost_23 : decode cX11_lost 23 = .ok (.getfield 53, 3) := by decide +kernel
theorem dX11_lost_26 : decode cX11_lost 26 = .ok (.iload_n 1, 1) := by decide +kernel
theorem dX11_lost_27 : decode cX11_lost 27 = .ok (.iaload, 1) := by decide +kernel
theorem dX11_lost_28 : decode cX11_lost 28 = .ok (.aload_n 0, 1) := by decide +kernel
theorem dX11_lost_29 : decode cX11_lost 29 = .ok (.getfield 56, 3) := by decide +kernel
theorem dX11_lost_32 : decode cX11_lost 32 = .ok (.iload_n 1, 1) := by decide +kernel
theorem dX11_lost_33 : decode cX11_lost 33 = .ok (.iaload, 1) := by decide +kernel
theorem dX11_lost_34 : decode cX11_lost 34 = .ok (.aload_n 0, 1) := by decide +kernel
theorem dX11_lost_35 : decode cX11_lost 35 = .ok (.getfield 245, 3) := by decide +kernel
theorem dX11_lost_38 : decode cX11_lost 38 = .ok (.aload_n 0, 1) := by decide +kernel
theorem dX11_lost_39 : decode cX11_lost 39 = .ok (.getfield 65, 3) := by decide +kernel
theorem dX11_lost_42 : decode cX11_lost 42 = .ok (.iload_n 1, 1) := by decide +kernel
theorem dX11_lost_43 : decode cX11_lost 43 = .ok (.baload, 1) := by decide +kernel
theorem dX11_lost_44 : decode cX11_lost 44 = .ok (.invokevirtual 224, 3) := by decide +kernel
theorem dX11_lost_47 : decode cX11_lost 47 = .ok (.iconst 1, 1) := by decide +kernel
theorem dX11_lost_48 : decode cX11_lost 48 = .ok (.aload_n 0, 1) := by decide +kernel
theorem dX11_lost_49 : decode cX11_lost 49 = .ok (.getfield 32, 3) := by decide +kernel
theorem dX11_lost_52 : decode cX11_lost 52 = .ok (.aload_n 0, 1) := by decide +kernel
theorem dX11_lost_53 : decode cX11_lost 53 = .ok (.getfield 62, 3) := by decide +kernel
theorem dX11_lost_56 : decode cX11_lost 56 = .ok (.iload_n 1, 1) := by decide +kernel
theorem dX11_lost_57 : decode cX11_lost 57 = .ok (.iaload, 1) := by decide +kernel
theorem dX11_lost_58 : decode cX11_lost 58 = .ok (.iaload, 1) := by decide +kernel
theorem dX11_lost_59 : decode cX11_lost 59 = .ok (.ishl, 1) := by decide +kernel
theorem dX11_lost_60 : decode cX11_lost 60 = .ok (.iconst 1, 1) := by decide +kernel
theorem dX11_lost_61 : decode cX11_lost 61 = .ok (.isub, 1) := by decide +kernel
theorem dX11_lost_62 : decode cX11_lost 62 = .ok (.aload_n 0, 1) := by decide +kernel
theorem dX11_lost_63 : decode cX11_lost 63 = .ok (.invokevirtual 228, 3) := by decide +kernel
theorem dX11_lost_66 : decode cX11_lost 66 = .ok (.iconst (-1), 1) := by decide +kernel
theorem dX11_lost_67 : decode cX11_lost 67 = .ok (.ixor, 1) := by decide +kernel
theorem dX11_lost_68 : decode cX11_lost 68 = .ok (.iand, 1) := by decide +kernel
theorem dX11_lost_69 : decode cX11_lost 69 = .ok (.ireturn, 1) := by decide +kernel
theorem dX11_isPossible_0 : decode cX11_isPossible 0 = .ok (.aload_n 0, 1) := by decide +kernel
theorem dX11_isPossible_1 : decode cX11_isPossible 1 = .ok (.getfield 9, 3) := by decide +kernel
theorem dX11_isPossible_4 : decode cX11_isPossible 4 = .ok (.iload_n 1, 1) := by decide +kernel
theorem dX11_isPossible_5 : decode cX11_isPossible 5 = .ok (.iaload, 1) := by decide +kernel
theorem dX11_isPossible_6 : decode cX11_isPossible 6 = .ok (.i2l, 1) := by decide +kernel
theorem dX11_isPossible_7 : decode cX11_isPossible 7 = .ok (.iload_n 2, 1) := by decide +kernel
theorem dX11_isPossible_8 : decode cX11_isPossible 8 = .ok (.i2l, 1) := by decide +kernel
theorem dX11_isPossible_9 : decode cX11_isPossible 9 = .ok (.lsub, 1) := by decide +kernel
theorem dX11_isPossible_10 : decode cX11_isPossible 10 = .ok (.invokestatic 267, 3) := by decide +kernel
theorem dX11_isPossible_13 : decode cX11_isPossible 13 = .ok (.iload 4, 2) := by decide +kernel
theorem dX11_isPossible_15 : decode cX11_isPossible 15 = .ok (.i2l, 1) := by decide +kernel
theorem dX11_isPossible_16 : decode cX11_isPossible 16 = .ok (.lcmp, 1) := by decide +kernel
theorem dX11_isPossible_17 : decode cX11_isPossible 17 = .ok (.ifCond .gt 27, 3) := by decide +kernel
theorem dX11_isPossible_20 : decode cX11_isPossible 20 = .ok (.aload_n 0, 1) := by decide +kernel
theorem dX11_isPossible_21 : decode cX11_isPossible 21 = .ok (.getfield 13, 3) := by decide +kernel
theorem dX11_isPossible_24 : decode cX11_isPossible 24 = .ok (.iload_n 1, 1) := by decide +kernel
theorem dX11_isPossible_25 : decode cX11_isPossible 25 = .ok (.iaload, 1) := by decide +kernel
theorem dX11_isPossible_26 : decode cX11_isPossible 26 = .ok (.i2l, 1) := by decide +kernel
theorem dX11_isPossible_27 : decode cX11_isPossible 27 = .ok (.iload_n 3, 1) := by decide +kernel
theorem dX11_isPossible_28 : decode cX11_isPossible 28 = .ok (.i2l, 1) := by decide +kernel
theorem dX11_isPossible_29 : decode cX11_isPossible 29 = .ok (.lsub, 1) := by decide +kernel
theorem dX11_isPossible_30 : decode cX11_isPossible 30 = .ok (.invokestatic 267, 3) := by decide +kernel
theorem dX11_isPossible_33 : decode cX11_isPossible 33 = .ok (.iload 4, 2) := by decide +kernel
theorem dX11_isPossible_35 : decode cX11_isPossible 35 = .ok (.i2l, 1) := by decide +kernel
theorem dX11_isPossible_36 : decode cX11_isPossible 36 = .ok (.lcmp, 1) := by decide +kernel
theorem dX11_isPossible_37 : decode cX11_isPossible 37 = .ok (.ifCond .gt 7, 3) := by decide +kernel
theorem dX11_isPossible_40 : decode cX11_isPossible 40 = .ok (.iconst 1, 1) := by decide +kernel
theorem dX11_isPossible_41 : decode cX11_isPossible 41 = .ok (.goto 4, 3) := by decide +kernel
theorem dX11_isPossible_44 : decode cX11_isPossible 44 = .ok (.iconst 0, 1) := by decide +kernel
theorem dX11_isPossible_45 : decode cX11_isPossible 45 = .ok (.ireturn, 1) := by decide +kernel
theorem dX11_reads_0 : decode cX11_reads 0 = .ok (.iconst 0, 1) := by decide +kernel
theorem dX11_reads_1 : decode cX11_reads 1 = .ok (.istore 5, 2) := by decide +kernel
theorem dX11_reads_3 : decode cX11_reads 3 = .ok (.iconst (-1), 1) := by decide +kernel
theorem dX11_reads_4 : decode cX11_reads 4 = .ok (.istore 6, 2) := by decide +kernel
theorem dX11_reads_6 : decode cX11_reads 6 = .ok (.iconst 0, 1) := by decide +kernel
theorem dX11_reads_7 : decode cX11_reads 7 = .ok (.istore 7, 2) := by decide +kernel
theorem dX11_reads_9 : decode cX11_reads 9 = .ok (.iload 7, 2) := by decide +kernel
theorem dX11_reads_11 : decode cX11_reads 11 = .ok (.aload_n 0, 1) := by decide +kernel
theorem dX11_reads_12 : decode cX11_reads 12 = .ok (.getfield 118, 3) := by decide +kernel
theorem dX11_reads_15 : decode cX11_reads 15 = .ok (.if_icmp .ge 29, 3) := by decide +kernel
theorem dX11_reads_18 : decode cX11_reads 18 = .ok (.aload_n 0, 1) := by decide +kernel
theorem dX11_reads_19 : decode cX11_reads 19 = .ok (.iload 7, 2) := by decide +kernel
theorem dX11_reads_21 : decode cX11_reads 21 = .ok (.iload_n 2, 1) := by decide +kernel
theorem dX11_reads_22 : decode cX11_reads 22 = .ok (.iload_n 3, 1) := by decide +kernel
theorem dX11_reads_23 : decode cX11_reads 23 = .ok (.iload 4, 2) := by decide +kernel
theorem dX11_reads_25 : decode cX11_reads 25 = .ok (.invokevirtual 271, 3) := by decide +kernel
theorem dX11_reads_28 : decode cX11_reads 28 = .ok (.ifCond .eq 10, 3) := by decide +kernel
theorem dX11_reads_31 : decode cX11_reads 31 = .ok (.iinc 5 1, 3) := by decide +kernel
theorem dX11_reads_34 : decode cX11_reads 34 = .ok (.iload 7, 2) := by decide +kernel
theorem dX11_reads_36 : decode cX11_reads 36 = .ok (.istore 6, 2) := by decide +kernel
theorem dX11_reads_38 : decode cX11_reads 38 = .ok (.iinc 7 1, 3) := by decide +kernel
theorem dX11_reads_41 : decode cX11_reads 41 = .ok (.goto (-32), 3) := by decide +kernel
theorem dX11_reads_44 : decode cX11_reads 44 = .ok (.aload_n 0, 1) := by decide +kernel
theorem dX11_reads_45 : decode cX11_reads 45 = .ok (.aload_n 0, 1) := by decide +kernel
theorem dX11_reads_46 : decode cX11_reads 46 = .ok (.getfield 53, 3) := by decide +kernel
theorem dX11_reads_49 : decode cX11_reads 49 = .ok (.iload_n 1, 1) := by decide +kernel
theorem dX11_reads_50 : decode cX11_reads 50 = .ok (.iaload, 1) := by decide +kernel
theorem dX11_reads_51 : decode cX11_reads 51 = .ok (.iload_n 2, 1) := by decide +kernel
theorem dX11_reads_52 : decode cX11_reads 52 = .ok (.iload_n 3, 1) := by decide +kernel
theorem dX11_reads_53 : decode cX11_reads 53 = .ok (.iload 4, 2) := by decide +kernel
theorem dX11_reads_55 : decode cX11_reads 55 = .ok (.invokevirtual 271, 3) := by decide +kernel
theorem dX11_reads_58 : decode cX11_reads 58 = .ok (.ifCond .eq 11, 3) := by decide +kernel
theorem dX11_reads_61 : decode cX11_reads 61 = .ok (.aload_n 0, 1) := by decide +kernel
theorem dX11_reads_62 : decode cX11_reads 62 = .ok (.getfield 74, 3) := by decide +kernel
theorem dX11_reads_65 : decode cX11_reads 65 = .ok (.iload_n 1, 1) := by decide +kernel
theorem dX11_reads_66 : decode cX11_reads 66 = .ok (.iconst 0, 1) := by decide +kernel
theorem dX11_reads_67 : decode cX11_reads 67 = .ok (.iastore, 1) := by decide +kernel
theorem dX11_reads_68 : decode cX11_reads 68 = .ok (.return_, 1) := by decide +kernel
theorem dX11_reads_69 : decode cX11_reads 69 = .ok (.iload 5, 2) := by decide +kernel
theorem dX11_reads_71 : decode cX11_reads 71 = .ok (.iconst 1, 1) := by decide +kernel
theorem dX11_reads_72 : decode cX11_reads 72 = .ok (.if_icmp .eq 4, 3) := by decide +kernel
theorem dX11_reads_75 : decode cX11_reads 75 = .ok (.return_, 1) := by decide +kernel
theorem dX11_reads_76 : decode cX11_reads 76 = .ok (.aload_n 0, 1) := by decide +kernel
theorem dX11_reads_77 : decode cX11_reads 77 = .ok (.getfield 74, 3) := by decide +kernel
theorem dX11_reads_80 : decode cX11_reads 80 = .ok (.iload_n 1, 1) := by decide +kernel
theorem dX11_reads_81 : decode cX11_reads 81 = .ok (.aload_n 0, 1) := by decide +kernel
theorem dX11_reads_82 : decode cX11_reads 82 = .ok (.getfield 74, 3) := by decide +kernel
theorem dX11_reads_85 : decode cX11_reads 85 = .ok (.iload_n 1, 1) := by decide +kernel
theorem dX11_reads_86 : decode cX11_reads 86 = .ok (.iaload, 1) := by decide +kernel
theorem dX11_reads_87 : decode cX11_reads 87 = .ok (.ifCond .le 25, 3) := by decide +kernel
theorem dX11_reads_90 : decode cX11_reads 90 = .ok (.aload_n 0, 1) := by decide +kernel
theorem dX11_reads_91 : decode cX11_reads 91 = .ok (.getfield 71, 3) := by decide +kernel
theorem dX11_reads_94 : decode cX11_reads 94 = .ok (.iload_n 1, 1) := by decide +kernel
theorem dX11_reads_95 : decode cX11_reads 95 = .ok (.iaload, 1) := by decide +kernel
theorem dX11_reads_96 : decode cX11_reads 96 = .ok (.iload 6, 2) := by decide +kernel
theorem dX11_reads_98 : decode cX11_reads 98 = .ok (.if_icmp .ne 14, 3) := by decide +kernel
theorem dX11_reads_101 : decode cX11_reads 101 = .ok (.aload_n 0, 1) := by decide +kernel
theorem dX11_reads_102 : decode cX11_reads 102 = .ok (.getfield 74, 3) := by decide +kernel
theorem dX11_reads_105 : decode cX11_reads 105 = .ok (.iload_n 1, 1) := by decide +kernel
theorem dX11_reads_106 : decode cX11_reads 106 = .ok (.iaload, 1) := by decide +kernel
theorem dX11_reads_107 : decode cX11_reads 107 = .ok (.iconst 1, 1) := by decide +kernel
theorem dX11_reads_108 : decode cX11_reads 108 = .ok (.iadd, 1) := by decide +kernel
theorem dX11_reads_109 : decode cX11_reads 109 = .ok (.goto 4, 3) := by decide +kernel
theorem dX11_reads_112 : decode cX11_reads 112 = .ok (.iconst 1, 1) := by decide +kernel
theorem dX11_reads_113 : decode cX11_reads 113 = .ok (.iastore, 1) := by decide +kernel
theorem dX11_reads_114 : decode cX11_reads 114 = .ok (.aload_n 0, 1) := by decide +kernel
theorem dX11_reads_115 : decode cX11_reads 115 = .ok (.getfield 71, 3) := by decide +kernel
theorem dX11_reads_118 : decode cX11_reads 118 = .ok (.iload_n 1, 1) := by decide +kernel
theorem dX11_reads_119 : decode cX11_reads 119 = .ok (.iload 6, 2) := by decide +kernel
theorem dX11_reads_121 : decode cX11_reads 121 = .ok (.iastore, 1) := by decide +kernel
theorem dX11_reads_122 : decode cX11_reads 122 = .ok (.aload_n 0, 1) := by decide +kernel
theorem dX11_reads_123 : decode cX11_reads 123 = .ok (.getfield 74, 3) := by decide +kernel
theorem dX11_reads_126 : decode cX11_reads 126 = .ok (.iload_n 1, 1) := by decide +kernel
theorem dX11_reads_127 : decode cX11_reads 127 = .ok (.iaload, 1) := by decide +kernel
theorem dX11_reads_128 : decode cX11_reads 128 = .ok (.iconst 4, 1) := by decide +kernel
theorem dX11_reads_129 : decode cX11_reads 129 = .ok (.if_icmp .ge 25, 3) := by decide +kernel
theorem dX11_reads_132 : decode cX11_reads 132 = .ok (.aload_n 0, 1) := by decide +kernel
theorem dX11_reads_133 : decode cX11_reads 133 = .ok (.getfield 74, 3) := by decide +kernel
theorem dX11_reads_136 : decode cX11_reads 136 = .ok (.iload_n 1, 1) := by decide +kernel
theorem dX11_reads_137 : decode cX11_reads 137 = .ok (.iaload, 1) := by decide +kernel
theorem dX11_reads_138 : decode cX11_reads 138 = .ok (.iconst 2, 1) := by decide +kernel
theorem dX11_reads_139 : decode cX11_reads 139 = .ok (.if_icmp .lt 24, 3) := by decide +kernel
theorem dX11_reads_142 : decode cX11_reads 142 = .ok (.aload_n 0, 1) := by decide +kernel
theorem dX11_reads_143 : decode cX11_reads 143 = .ok (.iload_n 1, 1) := by decide +kernel
theorem dX11_reads_144 : decode cX11_reads 144 = .ok (.iload 6, 2) := by decide +kernel
theorem dX11_reads_146 : decode cX11_reads 146 = .ok (.invokevirtual 261, 3) := by decide +kernel
theorem dX11_reads_149 : decode cX11_reads 149 = .ok (.ldc 147, 2) := by decide +kernel
theorem dX11_reads_151 : decode cX11_reads 151 = .ok (.if_icmp .ge 12, 3) := by decide +kernel
theorem dX11_reads_154 : decode cX11_reads 154 = .ok (.aload_n 0, 1) := by decide +kernel
theorem dX11_reads_155 : decode cX11_reads 155 = .ok (.iload_n 1, 1) := by decide +kernel
theorem dX11_reads_156 : decode cX11_reads 156 = .ok (.iload 6, 2) := by decide +kernel
theorem dX11_reads_158 : decode cX11_reads 158 = .ok (.invokevirtual 258, 3) := by decide +kernel
theorem dX11_reads_161 : decode cX11_reads 161 = .ok (.istore 7, 2) := by decide +kernel
theorem dX11_reads_163 : decode cX11_reads 163 = .ok (.return_, 1) := by decide +kernel
theorem dX11_seen_0 : decode cX11_seen 0 = .ok (.aload_n 0, 1) := by decide +kernel
theorem dX11_seen_1 : decode cX11_seen 1 = .ok (.iload_n 1, 1) := by decide +kernel
theorem dX11_seen_2 : decode cX11_seen 2 = .ok (.invokevirtual 252, 3) := by decide +kernel
theorem dX11_seen_5 : decode cX11_seen 5 = .ok (.ifCond .eq 14, 3) := by decide +kernel
theorem dX11_seen_8 : decode cX11_seen 8 = .ok (.iload 4, 2) := by decide +kernel
theorem dX11_seen_10 : decode cX11_seen 10 = .ok (.iconst 0, 1) := by decide +kernel
theorem dX11_seen_11 : decode cX11_seen 11 = .ok (.bipush 30, 2) := by decide +kernel
theorem dX11_seen_13 : decode cX11_seen 13 = .ok (.invokestatic 121, 3) := by decide +kernel
theorem dX11_seen_16 : decode cX11_seen 16 = .ok (.ifCond .ne 10, 3) := by decide +kernel
theorem dX11_seen_19 : decode cX11_seen 19 = .ok (.aload_n 0, 1) := by decide +kernel
theorem dX11_seen_20 : decode cX11_seen 20 = .ok (.ldc 131, 2) := by decide +kernel
theorem dX11_seen_22 : decode cX11_seen 22 = .ok (.invokevirtual 132, 3) := by decide +kernel
theorem dX11_seen_25 : decode cX11_seen 25 = .ok (.ireturn, 1) := by decide +kernel
theorem dX11_seen_26 : decode cX11_seen 26 = .ok (.aload_n 0, 1) := by decide +kernel
theorem dX11_seen_27 : decode cX11_seen 27 = .ok (.iload_n 1, 1) := by decide +kernel
theorem dX11_seen_28 : decode cX11_seen 28 = .ok (.invokevirtual 255, 3) := by decide +kernel
theorem dX11_seen_31 : decode cX11_seen 31 = .ok (.ifCond .eq 10, 3) := by decide +kernel
theorem dX11_seen_34 : decode cX11_seen 34 = .ok (.aload_n 0, 1) := by decide +kernel
theorem dX11_seen_35 : decode cX11_seen 35 = .ok (.ldc 248, 2) := by decide +kernel
theorem dX11_seen_37 : decode cX11_seen 37 = .ok (.invokevirtual 132, 3) := by decide +kernel
theorem dX11_seen_40 : decode cX11_seen 40 = .ok (.ireturn, 1) := by decide +kernel
theorem dX11_seen_41 : decode cX11_seen 41 = .ok (.aload_n 0, 1) := by decide +kernel
theorem dX11_seen_42 : decode cX11_seen 42 = .ok (.iload_n 1, 1) := by decide +kernel
theorem dX11_seen_43 : decode cX11_seen 43 = .ok (.iload_n 2, 1) := by decide +kernel
theorem dX11_seen_44 : decode cX11_seen 44 = .ok (.iload_n 3, 1) := by decide +kernel
theorem dX11_seen_45 : decode cX11_seen 45 = .ok (.iload 4, 2) := by decide +kernel
theorem dX11_seen_47 : decode cX11_seen 47 = .ok (.invokevirtual 275, 3) := by decide +kernel
theorem dX11_seen_50 : decode cX11_seen 50 = .ok (.aload_n 0, 1) := by decide +kernel
theorem dX11_seen_51 : decode cX11_seen 51 = .ok (.getfield 53, 3) := by decide +kernel
theorem dX11_seen_54 : decode cX11_seen 54 = .ok (.iload_n 1, 1) := by decide +kernel
theorem dX11_seen_55 : decode cX11_seen 55 = .ok (.iaload, 1) := by decide +kernel
theorem dX11_seen_56 : decode cX11_seen 56 = .ok (.ireturn, 1) := by decide +kernel
theorem dX11_isSheet_0 : decode cX11_isSheet 0 = .ok (.iload_n 0, 1) := by decide +kernel
theorem dX11_isSheet_1 : decode cX11_isSheet 1 = .ok (.iconst 0, 1) := by decide +kernel
theorem dX11_isSheet_2 : decode cX11_isSheet 2 = .ok (.iconst 3, 1) := by decide +kernel
theorem dX11_isSheet_3 : decode cX11_isSheet 3 = .ok (.invokestatic 121, 3) := by decide +kernel
theorem dX11_isSheet_6 : decode cX11_isSheet 6 = .ok (.ireturn, 1) := by decide +kernel
theorem dX11_sheet_0 : decode cX11_sheet 0 = .ok (.iload_n 1, 1) := by decide +kernel
theorem dX11_sheet_1 : decode cX11_sheet 1 = .ok (.invokestatic 279, 3) := by decide +kernel
theorem dX11_sheet_4 : decode cX11_sheet 4 = .ok (.ifCond .eq 25, 3) := by decide +kernel
theorem dX11_sheet_7 : decode cX11_sheet 7 = .ok (.iload_n 2, 1) := by decide +kernel
theorem dX11_sheet_8 : decode cX11_sheet 8 = .ok (.ifCond .eq 28, 3) := by decide +kernel
theorem dX11_sheet_11 : decode cX11_sheet 11 = .ok (.iload_n 2, 1) := by decide +kernel
theorem dX11_sheet_12 : decode cX11_sheet 12 = .ok (.bipush 8, 2) := by decide +kernel
theorem dX11_sheet_14 : decode cX11_sheet 14 = .ok (.if_icmp .eq 22, 3) := by decide +kernel
theorem dX11_sheet_17 : decode cX11_sheet 17 = .ok (.iload_n 2, 1) := by decide +kernel
theorem dX11_sheet_18 : decode cX11_sheet 18 = .ok (.bipush 16, 2) := by decide +kernel
theorem dX11_sheet_20 : decode cX11_sheet 20 = .ok (.if_icmp .eq 16, 3) := by decide +kernel
theorem dX11_sheet_23 : decode cX11_sheet 23 = .ok (.iload_n 2, 1) := by decide +kernel
theorem dX11_sheet_24 : decode cX11_sheet 24 = .ok (.bipush 32, 2) := by decide +kernel
theorem dX11_sheet_26 : decode cX11_sheet 26 = .ok (.if_icmp .eq 10, 3) := by decide +kernel
theorem dX11_sheet_29 : decode cX11_sheet 29 = .ok (.aload_n 0, 1) := by decide +kernel
theorem dX11_sheet_30 : decode cX11_sheet 30 = .ok (.ldc 131, 2) := by decide +kernel
theorem dX11_sheet_32 : decode cX11_sheet 32 = .ok (.invokevirtual 132, 3) := by decide +kernel
theorem dX11_sheet_35 : decode cX11_sheet 35 = .ok (.ireturn, 1) := by decide +kernel
theorem dX11_sheet_36 : decode cX11_sheet 36 = .ok (.iload_n 3, 1) := by decide +kernel
theorem dX11_sheet_37 : decode cX11_sheet 37 = .ok (.ifCond .ge 11, 3) := by decide +kernel
theorem dX11_sheet_40 : decode cX11_sheet 40 = .ok (.aload_n 0, 1) := by decide +kernel
theorem dX11_sheet_41 : decode cX11_sheet 41 = .ok (.ldc_w 282, 3) := by decide +kernel
theorem dX11_sheet_44 : decode cX11_sheet 44 = .ok (.invokevirtual 132, 3) := by decide +kernel
theorem dX11_sheet_47 : decode cX11_sheet 47 = .ok (.ireturn, 1) := by decide +kernel
theorem dX11_sheet_48 : decode cX11_sheet 48 = .ok (.iload_n 3, 1) := by decide +kernel
theorem dX11_sheet_49 : decode cX11_sheet 49 = .ok (.bipush 12, 2) := by decide +kernel
theorem dX11_sheet_51 : decode cX11_sheet 51 = .ok (.if_icmp .le 10, 3) := by decide +kernel
theorem dX11_sheet_54 : decode cX11_sheet 54 = .ok (.aload_n 0, 1) := by decide +kernel
theorem dX11_sheet_55 : decode cX11_sheet 55 = .ok (.ldc 131, 2) := by decide +kernel
theorem dX11_sheet_57 : decode cX11_sheet 57 = .ok (.invokevirtual 132, 3) := by decide +kernel
theorem dX11_sheet_60 : decode cX11_sheet 60 = .ok (.ireturn, 1) := by decide +kernel
theorem dX11_sheet_61 : decode cX11_sheet 61 = .ok (.aload_n 0, 1) := by decide +kernel
theorem dX11_sheet_62 : decode cX11_sheet 62 = .ok (.getfield 77, 3) := by decide +kernel
theorem dX11_sheet_65 : decode cX11_sheet 65 = .ok (.iload_n 1, 1) := by decide +kernel
theorem dX11_sheet_66 : decode cX11_sheet 66 = .ok (.iload_n 2, 1) := by decide +kernel
theorem dX11_sheet_67 : decode cX11_sheet 67 = .ok (.iastore, 1) := by decide +kernel
theorem dX11_sheet_68 : decode cX11_sheet 68 = .ok (.aload_n 0, 1) := by decide +kernel
theorem dX11_sheet_69 : decode cX11_sheet 69 = .ok (.getfield 80, 3) := by decide +kernel
theorem dX11_sheet_72 : decode cX11_sheet 72 = .ok (.iload_n 1, 1) := by decide +kernel
theorem dX11_sheet_73 : decode cX11_sheet 73 = .ok (.iload_n 2, 1) := by decide +kernel
theorem dX11_sheet_74 : decode cX11_sheet 74 = .ok (.ifCond .ne 7, 3) := by decide +kernel
theorem dX11_sheet_77 : decode cX11_sheet 77 = .ok (.iconst 0, 1) := by decide +kernel
theorem dX11_sheet_78 : decode cX11_sheet 78 = .ok (.goto 4, 3) := by decide +kernel
theorem dX11_sheet_81 : decode cX11_sheet 81 = .ok (.iload_n 3, 1) := by decide +kernel
theorem dX11_sheet_82 : decode cX11_sheet 82 = .ok (.iastore, 1) := by decide +kernel
theorem dX11_sheet_83 : decode cX11_sheet 83 = .ok (.iconst 0, 1) := by decide +kernel
theorem dX11_sheet_84 : decode cX11_sheet 84 = .ok (.istore 4, 2) := by decide +kernel
theorem dX11_sheet_86 : decode cX11_sheet 86 = .ok (.iload 4, 2) := by decide +kernel
theorem dX11_sheet_88 : decode cX11_sheet 88 = .ok (.bipush 12, 2) := by decide +kernel
theorem dX11_sheet_90 : decode cX11_sheet 90 = .ok (.if_icmp .ge 22, 3) := by decide +kernel
theorem dX11_sheet_93 : decode cX11_sheet 93 = .ok (.aload_n 0, 1) := by decide +kernel
theorem dX11_sheet_94 : decode cX11_sheet 94 = .ok (.getfield 83, 3) := by decide +kernel
theorem dX11_sheet_97 : decode cX11_sheet 97 = .ok (.bipush 12, 2) := by decide +kernel
theorem dX11_sheet_99 : decode cX11_sheet 99 = .ok (.iload_n 1, 1) := by decide +kernel
theorem dX11_sheet_100 : decode cX11_sheet 100 = .ok (.imul, 1) := by decide +kernel
theorem dX11_sheet_101 : decode cX11_sheet 101 = .ok (.iload 4, 2) := by decide +kernel
theorem dX11_sheet_103 : decode cX11_sheet 103 = .ok (.iadd, 1) := by decide +kernel
theorem dX11_sheet_104 : decode cX11_sheet 104 = .ok (.iconst 0, 1) := by decide +kernel
theorem dX11_sheet_105 : decode cX11_sheet 105 = .ok (.iastore, 1) := by decide +kernel
theorem dX11_sheet_106 : decode cX11_sheet 106 = .ok (.iinc 4 1, 3) := by decide +kernel
theorem dX11_sheet_109 : decode cX11_sheet 109 = .ok (.goto (-23), 3) := by decide +kernel
theorem dX11_sheet_112 : decode cX11_sheet 112 = .ok (.aload_n 0, 1) := by decide +kernel
theorem dX11_sheet_113 : decode cX11_sheet 113 = .ok (.getfield 80, 3) := by decide +kernel
theorem dX11_sheet_116 : decode cX11_sheet 116 = .ok (.iload_n 1, 1) := by decide +kernel
theorem dX11_sheet_117 : decode cX11_sheet 117 = .ok (.iaload, 1) := by decide +kernel
theorem dX11_sheet_118 : decode cX11_sheet 118 = .ok (.ireturn, 1) := by decide +kernel
theorem dX11_write_0 : decode cX11_write 0 = .ok (.iload_n 1, 1) := by decide +kernel
theorem dX11_write_1 : decode cX11_write 1 = .ok (.invokestatic 279, 3) := by decide +kernel
theorem dX11_write_4 : decode cX11_write 4 = .ok (.ifCond .ne 10, 3) := by decide +kernel
theorem dX11_write_7 : decode cX11_write 7 = .ok (.aload_n 0, 1) := by decide +kernel
theorem dX11_write_8 : decode cX11_write 8 = .ok (.ldc 131, 2) := by decide +kernel
theorem dX11_write_10 : decode cX11_write 10 = .ok (.invokevirtual 132, 3) := by decide +kernel
theorem dX11_write_13 : decode cX11_write 13 = .ok (.ireturn, 1) := by decide +kernel
theorem dX11_write_14 : decode cX11_write 14 = .ok (.aload_n 0, 1) := by decide +kernel
theorem dX11_write_15 : decode cX11_write 15 = .ok (.getfield 77, 3) := by decide +kernel
theorem dX11_write_18 : decode cX11_write 18 = .ok (.iload_n 1, 1) := by decide +kernel
theorem dX11_write_19 : decode cX11_write 19 = .ok (.iaload, 1) := by decide +kernel
theorem dX11_write_20 : decode cX11_write 20 = .ok (.ifCond .ne 11, 3) := by decide +kernel
theorem dX11_write_23 : decode cX11_write 23 = .ok (.aload_n 0, 1) := by decide +kernel
theorem dX11_write_24 : decode cX11_write 24 = .ok (.ldc_w 283, 3) := by decide +kernel
theorem dX11_write_27 : decode cX11_write 27 = .ok (.invokevirtual 132, 3) := by decide +kernel
theorem dX11_write_30 : decode cX11_write 30 = .ok (.ireturn, 1) := by decide +kernel
theorem dX11_write_31 : decode cX11_write 31 = .ok (.iload_n 2, 1) := by decide +kernel
theorem dX11_write_32 : decode cX11_write 32 = .ok (.iconst 0, 1) := by decide +kernel
theorem dX11_write_33 : decode cX11_write 33 = .ok (.aload_n 0, 1) := by decide +kernel
theorem dX11_write_34 : decode cX11_write 34 = .ok (.getfield 80, 3) := by decide +kernel
theorem dX11_write_37 : decode cX11_write 37 = .ok (.iload_n 1, 1) := by decide +kernel
theorem dX11_write_38 : decode cX11_write 38 = .ok (.iaload, 1) := by decide +kernel
theorem dX11_write_39 : decode cX11_write 39 = .ok (.iconst 1, 1) := by decide +kernel
theorem dX11_write_40 : decode cX11_write 40 = .ok (.isub, 1) := by decide +kernel
theorem dX11_write_41 : decode cX11_write 41 = .ok (.invokestatic 121, 3) := by decide +kernel
theorem dX11_write_44 : decode cX11_write 44 = .ok (.ifCond .ne 10, 3) := by decide +kernel
theorem dX11_write_47 : decode cX11_write 47 = .ok (.aload_n 0, 1) := by decide +kernel
theorem dX11_write_48 : decode cX11_write 48 = .ok (.ldc 131, 2) := by decide +kernel
theorem dX11_write_50 : decode cX11_write 50 = .ok (.invokevirtual 132, 3) := by decide +kernel
theorem dX11_write_53 : decode cX11_write 53 = .ok (.ireturn, 1) := by decide +kernel
theorem dX11_write_54 : decode cX11_write 54 = .ok (.aload_n 0, 1) := by decide +kernel
theorem dX11_write_55 : decode cX11_write 55 = .ok (.getfield 83, 3) := by decide +kernel
theorem dX11_write_58 : decode cX11_write 58 = .ok (.bipush 12, 2) := by decide +kernel
theorem dX11_write_60 : decode cX11_write 60 = .ok (.iload_n 1, 1) := by decide +kernel
theorem dX11_write_61 : decode cX11_write 61 = .ok (.imul, 1) := by decide +kernel
theorem dX11_write_62 : decode cX11_write 62 = .ok (.iload_n 2, 1) := by decide +kernel
theorem dX11_write_63 : decode cX11_write 63 = .ok (.iadd, 1) := by decide +kernel
theorem dX11_write_64 : decode cX11_write 64 = .ok (.iaload, 1) := by decide +kernel
theorem dX11_write_65 : decode cX11_write 65 = .ok (.istore 4, 2) := by decide +kernel
theorem dX11_write_67 : decode cX11_write 67 = .ok (.bipush 32, 2) := by decide +kernel
theorem dX11_write_69 : decode cX11_write 69 = .ok (.aload_n 0, 1) := by decide +kernel
theorem dX11_write_70 : decode cX11_write 70 = .ok (.getfield 77, 3) := by decide +kernel
theorem dX11_write_73 : decode cX11_write 73 = .ok (.iload_n 1, 1) := by decide +kernel
theorem dX11_write_74 : decode cX11_write 74 = .ok (.iaload, 1) := by decide +kernel
theorem dX11_write_75 : decode cX11_write 75 = .ok (.isub, 1) := by decide +kernel
theorem dX11_write_76 : decode cX11_write 76 = .ok (.istore 5, 2) := by decide +kernel
theorem dX11_write_78 : decode cX11_write 78 = .ok (.aload_n 0, 1) := by decide +kernel
theorem dX11_write_79 : decode cX11_write 79 = .ok (.getfield 83, 3) := by decide +kernel
theorem dX11_write_82 : decode cX11_write 82 = .ok (.bipush 12, 2) := by decide +kernel
theorem dX11_write_84 : decode cX11_write 84 = .ok (.iload_n 1, 1) := by decide +kernel
theorem dX11_write_85 : decode cX11_write 85 = .ok (.imul, 1) := by decide +kernel
theorem dX11_write_86 : decode cX11_write 86 = .ok (.iload_n 2, 1) := by decide +kernel
theorem dX11_write_87 : decode cX11_write 87 = .ok (.iadd, 1) := by decide +kernel
theorem dX11_write_88 : decode cX11_write 88 = .ok (.iload_n 3, 1) := by decide +kernel
theorem dX11_write_89 : decode cX11_write 89 = .ok (.iload 5, 2) := by decide +kernel
theorem dX11_write_91 : decode cX11_write 91 = .ok (.ishl, 1) := by decide +kernel
theorem dX11_write_92 : decode cX11_write 92 = .ok (.iload 5, 2) := by decide +kernel
theorem dX11_write_94 : decode cX11_write 94 = .ok (.ishr, 1) := by decide +kernel
theorem dX11_write_95 : decode cX11_write 95 = .ok (.iastore, 1) := by decide +kernel
theorem dX11_write_96 : decode cX11_write 96 = .ok (.iload 4, 2) := by decide +kernel
theorem dX11_write_98 : decode cX11_write 98 = .ok (.ireturn, 1) := by decide +kernel
theorem dX11_copy_0 : decode cX11_copy 0 = .ok (.iload_n 1, 1) := by decide +kernel
theorem dX11_copy_1 : decode cX11_copy 1 = .ok (.invokestatic 279, 3) := by decide +kernel
theorem dX11_copy_4 : decode cX11_copy 4 = .ok (.ifCond .eq 10, 3) := by decide +kernel
theorem dX11_copy_7 : decode cX11_copy 7 = .ok (.iload_n 3, 1) := by decide +kernel
theorem dX11_copy_8 : decode cX11_copy 8 = .ok (.invokestatic 279, 3) := by decide +kernel
theorem dX11_copy_11 : decode cX11_copy 11 = .ok (.ifCond .ne 10, 3) := by decide +kernel
theorem dX11_copy_14 : decode cX11_copy 14 = .ok (.aload_n 0, 1) := by decide +kernel
theorem dX11_copy_15 : decode cX11_copy 15 = .ok (.ldc 131, 2) := by decide +kernel
theorem dX11_copy_17 : decode cX11_copy 17 = .ok (.invokevirtual 132, 3) := by decide +kernel
theorem dX11_copy_20 : decode cX11_copy 20 = .ok (.ireturn, 1) := by decide +kernel
theorem dX11_copy_21 : decode cX11_copy 21 = .ok (.aload_n 0, 1) := by decide +kernel
theorem dX11_copy_22 : decode cX11_copy 22 = .ok (.getfield 77, 3) := by decide +kernel
theorem dX11_copy_25 : decode cX11_copy 25 = .ok (.iload_n 1, 1) := by decide +kernel
theorem dX11_copy_26 : decode cX11_copy 26 = .ok (.iaload, 1) := by decide +kernel
theorem dX11_copy_27 : decode cX11_copy 27 = .ok (.ifCond .eq 12, 3) := by decide +kernel
theorem dX11_copy_30 : decode cX11_copy 30 = .ok (.aload_n 0, 1) := by decide +kernel
theorem dX11_copy_31 : decode cX11_copy 31 = .ok (.getfield 77, 3) := by decide +kernel
theorem dX11_copy_34 : decode cX11_copy 34 = .ok (.iload_n 3, 1) := by decide +kernel
theorem dX11_copy_35 : decode cX11_copy 35 = .ok (.iaload, 1) := by decide +kernel
theorem dX11_copy_36 : decode cX11_copy 36 = .ok (.ifCond .ne 11, 3) := by decide +kernel
theorem dX11_copy_39 : decode cX11_copy 39 = .ok (.aload_n 0, 1) := by decide +kernel
theorem dX11_copy_40 : decode cX11_copy 40 = .ok (.ldc_w 283, 3) := by decide +kernel
theorem dX11_copy_43 : decode cX11_copy 43 = .ok (.invokevirtual 132, 3) := by decide +kernel
theorem dX11_copy_46 : decode cX11_copy 46 = .ok (.ireturn, 1) := by decide +kernel
theorem dX11_copy_47 : decode cX11_copy 47 = .ok (.aload_n 0, 1) := by decide +kernel
theorem dX11_copy_48 : decode cX11_copy 48 = .ok (.getfield 77, 3) := by decide +kernel
theorem dX11_copy_51 : decode cX11_copy 51 = .ok (.iload_n 1, 1) := by decide +kernel
theorem dX11_copy_52 : decode cX11_copy 52 = .ok (.iaload, 1) := by decide +kernel
theorem dX11_copy_53 : decode cX11_copy 53 = .ok (.aload_n 0, 1) := by decide +kernel
theorem dX11_copy_54 : decode cX11_copy 54 = .ok (.getfield 77, 3) := by decide +kernel
theorem dX11_copy_57 : decode cX11_copy 57 = .ok (.iload_n 3, 1) := by decide +kernel
theorem dX11_copy_58 : decode cX11_copy 58 = .ok (.iaload, 1) := by decide +kernel
theorem dX11_copy_59 : decode cX11_copy 59 = .ok (.if_icmp .eq 10, 3) := by decide +kernel
theorem dX11_copy_62 : decode cX11_copy 62 = .ok (.aload_n 0, 1) := by decide +kernel
theorem dX11_copy_63 : decode cX11_copy 63 = .ok (.ldc 198, 2) := by decide +kernel
theorem dX11_copy_65 : decode cX11_copy 65 = .ok (.invokevirtual 132, 3) := by decide +kernel
theorem dX11_copy_68 : decode cX11_copy 68 = .ok (.ireturn, 1) := by decide +kernel
theorem dX11_copy_69 : decode cX11_copy 69 = .ok (.iload_n 2, 1) := by decide +kernel
theorem dX11_copy_70 : decode cX11_copy 70 = .ok (.ifCond .lt 48, 3) := by decide +kernel
theorem dX11_copy_73 : decode cX11_copy 73 = .ok (.iload 4, 2) := by decide +kernel
theorem dX11_copy_75 : decode cX11_copy 75 = .ok (.ifCond .lt 43, 3) := by decide +kernel
theorem dX11_copy_78 : decode cX11_copy 78 = .ok (.iload 5, 2) := by decide +kernel
theorem dX11_copy_80 : decode cX11_copy 80 = .ok (.ifCond .lt 38, 3) := by decide +kernel
theorem dX11_copy_83 : decode cX11_copy 83 = .ok (.iload_n 2, 1) := by decide +kernel
theorem dX11_copy_84 : decode cX11_copy 84 = .ok (.i2l, 1) := by decide +kernel
theorem dX11_copy_85 : decode cX11_copy 85 = .ok (.iload 5, 2) := by decide +kernel
theorem dX11_copy_87 : decode cX11_copy 87 = .ok (.i2l, 1) := by decide +kernel
theorem dX11_copy_88 : decode cX11_copy 88 = .ok (.ladd, 1) := by decide +kernel
theorem dX11_copy_89 : decode cX11_copy 89 = .ok (.aload_n 0, 1) := by decide +kernel
theorem dX11_copy_90 : decode cX11_copy 90 = .ok (.getfield 80, 3) := by decide +kernel
theorem dX11_copy_93 : decode cX11_copy 93 = .ok (.iload_n 1, 1) := by decide +kernel
theorem dX11_copy_94 : decode cX11_copy 94 = .ok (.iaload, 1) := by decide +kernel
theorem dX11_copy_95 : decode cX11_copy 95 = .ok (.i2l, 1) := by decide +kernel
theorem dX11_copy_96 : decode cX11_copy 96 = .ok (.lcmp, 1) := by decide +kernel
theorem dX11_copy_97 : decode cX11_copy 97 = .ok (.ifCond .gt 21, 3) := by decide +kernel
theorem dX11_copy_100 : decode cX11_copy 100 = .ok (.iload 4, 2) := by decide +kernel
theorem dX11_copy_102 : decode cX11_copy 102 = .ok (.i2l, 1) := by decide +kernel
theorem dX11_copy_103 : decode cX11_copy 103 = .ok (.iload 5, 2) := by decide +kernel
theorem dX11_copy_105 : decode cX11_copy 105 = .ok (.i2l, 1) := by decide +kernel
theorem dX11_copy_106 : decode cX11_copy 106 = .ok (.ladd, 1) := by decide +kernel
theorem dX11_copy_107 : decode cX11_copy 107 = .ok (.aload_n 0, 1) := by decide +kernel
theorem dX11_copy_108 : decode cX11_copy 108 = .ok (.getfield 80, 3) := by decide +kernel
theorem dX11_copy_111 : decode cX11_copy 111 = .ok (.iload_n 3, 1) := by decide +kernel
theorem dX11_copy_112 : decode cX11_copy 112 = .ok (.iaload, 1) := by decide +kernel
theorem dX11_copy_113 : decode cX11_copy 113 = .ok (.i2l, 1) := by decide +kernel
theorem dX11_copy_114 : decode cX11_copy 114 = .ok (.lcmp, 1) := by decide +kernel
theorem dX11_copy_115 : decode cX11_copy 115 = .ok (.ifCond .le 10, 3) := by decide +kernel
theorem dX11_copy_118 : decode cX11_copy 118 = .ok (.aload_n 0, 1) := by decide +kernel
theorem dX11_copy_119 : decode cX11_copy 119 = .ok (.ldc 131, 2) := by decide +kernel
theorem dX11_copy_121 : decode cX11_copy 121 = .ok (.invokevirtual 132, 3) := by decide +kernel
theorem dX11_copy_124 : decode cX11_copy 124 = .ok (.ireturn, 1) := by decide +kernel
theorem dX11_copy_125 : decode cX11_copy 125 = .ok (.iconst 0, 1) := by decide +kernel
theorem dX11_copy_126 : decode cX11_copy 126 = .ok (.istore 6, 2) := by decide +kernel
theorem dX11_copy_128 : decode cX11_copy 128 = .ok (.iload 6, 2) := by decide +kernel
theorem dX11_copy_130 : decode cX11_copy 130 = .ok (.iload 5, 2) := by decide +kernel
theorem dX11_copy_132 : decode cX11_copy 132 = .ok (.if_icmp .ge 30, 3) := by decide +kernel
theorem dX11_copy_135 : decode cX11_copy 135 = .ok (.aload_n 0, 1) := by decide +kernel
theorem dX11_copy_136 : decode cX11_copy 136 = .ok (.getfield 111, 3) := by decide +kernel
theorem dX11_copy_139 : decode cX11_copy 139 = .ok (.iload 6, 2) := by decide +kernel
theorem dX11_copy_141 : decode cX11_copy 141 = .ok (.aload_n 0, 1) := by decide +kernel
theorem dX11_copy_142 : decode cX11_copy 142 = .ok (.getfield 83, 3) := by decide +kernel
theorem dX11_copy_145 : decode cX11_copy 145 = .ok (.bipush 12, 2) := by decide +kernel
theorem dX11_copy_147 : decode cX11_copy 147 = .ok (.iload_n 1, 1) := by decide +kernel
theorem dX11_copy_148 : decode cX11_copy 148 = .ok (.imul, 1) := by decide +kernel
theorem dX11_copy_149 : decode cX11_copy 149 = .ok (.iload_n 2, 1) := by decide +kernel
theorem dX11_copy_150 : decode cX11_copy 150 = .ok (.iadd, 1) := by decide +kernel
theorem dX11_copy_151 : decode cX11_copy 151 = .ok (.iload 6, 2) := by decide +kernel
theorem dX11_copy_153 : decode cX11_copy 153 = .ok (.iadd, 1) := by decide +kernel
theorem dX11_copy_154 : decode cX11_copy 154 = .ok (.iaload, 1) := by decide +kernel
theorem dX11_copy_155 : decode cX11_copy 155 = .ok (.iastore, 1) := by decide +kernel
theorem dX11_copy_156 : decode cX11_copy 156 = .ok (.iinc 6 1, 3) := by decide +kernel
theorem dX11_copy_159 : decode cX11_copy 159 = .ok (.goto (-31), 3) := by decide +kernel
theorem dX11_copy_162 : decode cX11_copy 162 = .ok (.iconst 0, 1) := by decide +kernel
theorem dX11_copy_163 : decode cX11_copy 163 = .ok (.istore 6, 2) := by decide +kernel
theorem dX11_copy_165 : decode cX11_copy 165 = .ok (.iload 6, 2) := by decide +kernel
theorem dX11_copy_167 : decode cX11_copy 167 = .ok (.iload 5, 2) := by decide +kernel
theorem dX11_copy_169 : decode cX11_copy 169 = .ok (.if_icmp .ge 31, 3) := by decide +kernel
theorem dX11_copy_172 : decode cX11_copy 172 = .ok (.aload_n 0, 1) := by decide +kernel
theorem dX11_copy_173 : decode cX11_copy 173 = .ok (.getfield 83, 3) := by decide +kernel
theorem dX11_copy_176 : decode cX11_copy 176 = .ok (.bipush 12, 2) := by decide +kernel
theorem dX11_copy_178 : decode cX11_copy 178 = .ok (.iload_n 3, 1) := by decide +kernel
theorem dX11_copy_179 : decode cX11_copy 179 = .ok (.imul, 1) := by decide +kernel
theorem dX11_copy_180 : decode cX11_copy 180 = .ok (.iload 4, 2) := by decide +kernel
theorem dX11_copy_182 : decode cX11_copy 182 = .ok (.iadd, 1) := by decide +kernel
theorem dX11_copy_183 : decode cX11_copy 183 = .ok (.iload 6, 2) := by decide +kernel
theorem dX11_copy_185 : decode cX11_copy 185 = .ok (.iadd, 1) := by decide +kernel
theorem dX11_copy_186 : decode cX11_copy 186 = .ok (.aload_n 0, 1) := by decide +kernel
theorem dX11_copy_187 : decode cX11_copy 187 = .ok (.getfield 111, 3) := by decide +kernel
theorem dX11_copy_190 : decode cX11_copy 190 = .ok (.iload 6, 2) := by decide +kernel
theorem dX11_copy_192 : decode cX11_copy 192 = .ok (.iaload, 1) := by decide +kernel
theorem dX11_copy_193 : decode cX11_copy 193 = .ok (.iastore, 1) := by decide +kernel
theorem dX11_copy_194 : decode cX11_copy 194 = .ok (.iinc 6 1, 3) := by decide +kernel
theorem dX11_copy_197 : decode cX11_copy 197 = .ok (.goto (-32), 3) := by decide +kernel
theorem dX11_copy_200 : decode cX11_copy 200 = .ok (.iload 5, 2) := by decide +kernel
theorem dX11_copy_202 : decode cX11_copy 202 = .ok (.ireturn, 1) := by decide +kernel
theorem dX11_trace_0 : decode cX11_trace 0 = .ok (.iload_n 1, 1) := by decide +kernel
theorem dX11_trace_1 : decode cX11_trace 1 = .ok (.invokestatic 279, 3) := by decide +kernel
theorem dX11_trace_4 : decode cX11_trace 4 = .ok (.ifCond .eq 11, 3) := by decide +kernel
theorem dX11_trace_7 : decode cX11_trace 7 = .ok (.aload_n 0, 1) := by decide +kernel
theorem dX11_trace_8 : decode cX11_trace 8 = .ok (.iload_n 2, 1) := by decide +kernel
theorem dX11_trace_9 : decode cX11_trace 9 = .ok (.invokevirtual 252, 3) := by decide +kernel
theorem dX11_trace_12 : decode cX11_trace 12 = .ok (.ifCond .ne 10, 3) := by decide +kernel
theorem dX11_trace_15 : decode cX11_trace 15 = .ok (.aload_n 0, 1) := by decide +kernel
theorem dX11_trace_16 : decode cX11_trace 16 = .ok (.ldc 131, 2) := by decide +kernel
theorem dX11_trace_18 : decode cX11_trace 18 = .ok (.invokevirtual 132, 3) := by decide +kernel
theorem dX11_trace_21 : decode cX11_trace 21 = .ok (.ireturn, 1) := by decide +kernel
theorem dX11_trace_22 : decode cX11_trace 22 = .ok (.aload_n 0, 1) := by decide +kernel
theorem dX11_trace_23 : decode cX11_trace 23 = .ok (.getfield 77, 3) := by decide +kernel
theorem dX11_trace_26 : decode cX11_trace 26 = .ok (.iload_n 1, 1) := by decide +kernel
theorem dX11_trace_27 : decode cX11_trace 27 = .ok (.iaload, 1) := by decide +kernel
theorem dX11_trace_28 : decode cX11_trace 28 = .ok (.ifCond .ne 11, 3) := by decide +kernel
theorem dX11_trace_31 : decode cX11_trace 31 = .ok (.aload_n 0, 1) := by decide +kernel
theorem dX11_trace_32 : decode cX11_trace 32 = .ok (.ldc_w 283, 3) := by decide +kernel
theorem dX11_trace_35 : decode cX11_trace 35 = .ok (.invokevirtual 132, 3) := by decide +kernel
theorem dX11_trace_38 : decode cX11_trace 38 = .ok (.ireturn, 1) := by decide +kernel
theorem dX11_trace_39 : decode cX11_trace 39 = .ok (.iconst 0, 1) := by decide +kernel
theorem dX11_trace_40 : decode cX11_trace 40 = .ok (.istore_n 3, 1) := by decide +kernel
theorem dX11_trace_41 : decode cX11_trace 41 = .ok (.bipush 12, 2) := by decide +kernel
theorem dX11_trace_43 : decode cX11_trace 43 = .ok (.iload_n 1, 1) := by decide +kernel
theorem dX11_trace_44 : decode cX11_trace 44 = .ok (.imul, 1) := by decide +kernel
theorem dX11_trace_45 : decode cX11_trace 45 = .ok (.istore 4, 2) := by decide +kernel
theorem dX11_trace_47 : decode cX11_trace 47 = .ok (.iconst 3, 1) := by decide +kernel
theorem dX11_trace_48 : decode cX11_trace 48 = .ok (.iload_n 3, 1) := by decide +kernel
theorem dX11_trace_49 : decode cX11_trace 49 = .ok (.imul, 1) := by decide +kernel
theorem dX11_trace_50 : decode cX11_trace 50 = .ok (.iconst 2, 1) := by decide +kernel
theorem dX11_trace_51 : decode cX11_trace 51 = .ok (.iadd, 1) := by decide +kernel
theorem dX11_trace_52 : decode cX11_trace 52 = .ok (.aload_n 0, 1) := by decide +kernel
theorem dX11_trace_53 : decode cX11_trace 53 = .ok (.getfield 80, 3) := by decide +kernel
theorem dX11_trace_56 : decode cX11_trace 56 = .ok (.iload_n 1, 1) := by decide +kernel
theorem dX11_trace_57 : decode cX11_trace 57 = .ok (.iaload, 1) := by decide +kernel
theorem dX11_trace_58 : decode cX11_trace 58 = .ok (.if_icmp .ge 81, 3) := by decide +kernel
theorem dX11_trace_61 : decode cX11_trace 61 = .ok (.aload_n 0, 1) := by decide +kernel
theorem dX11_trace_62 : decode cX11_trace 62 = .ok (.iload_n 2, 1) := by decide +kernel
theorem dX11_trace_63 : decode cX11_trace 63 = .ok (.invokevirtual 255, 3) := by decide +kernel
theorem dX11_trace_66 : decode cX11_trace 66 = .ok (.ifCond .ne 73, 3) := by decide +kernel
theorem dX11_trace_69 : decode cX11_trace 69 = .ok (.aload_n 0, 1) := by decide +kernel
theorem dX11_trace_70 : decode cX11_trace 70 = .ok (.getfield 83, 3) := by decide +kernel
theorem dX11_trace_73 : decode cX11_trace 73 = .ok (.iload 4, 2) := by decide +kernel
theorem dX11_trace_75 : decode cX11_trace 75 = .ok (.iconst 3, 1) := by decide +kernel
theorem dX11_trace_76 : decode cX11_trace 76 = .ok (.iload_n 3, 1) := by decide +kernel
theorem dX11_trace_77 : decode cX11_trace 77 = .ok (.imul, 1) := by decide +kernel
theorem dX11_trace_78 : decode cX11_trace 78 = .ok (.iadd, 1) := by decide +kernel
theorem dX11_trace_79 : decode cX11_trace 79 = .ok (.iconst 2, 1) := by decide +kernel
theorem dX11_trace_80 : decode cX11_trace 80 = .ok (.iadd, 1) := by decide +kernel
theorem dX11_trace_81 : decode cX11_trace 81 = .ok (.iaload, 1) := by decide +kernel
theorem dX11_trace_82 : decode cX11_trace 82 = .ok (.iconst 0, 1) := by decide +kernel
theorem dX11_trace_83 : decode cX11_trace 83 = .ok (.bipush 30, 2) := by decide +kernel
theorem dX11_trace_85 : decode cX11_trace 85 = .ok (.invokestatic 121, 3) := by decide +kernel
theorem dX11_trace_88 : decode cX11_trace 88 = .ok (.ifCond .eq 51, 3) := by decide +kernel
theorem dX11_trace_91 : decode cX11_trace 91 = .ok (.aload_n 0, 1) := by decide +kernel
theorem dX11_trace_92 : decode cX11_trace 92 = .ok (.iload_n 2, 1) := by decide +kernel
theorem dX11_trace_93 : decode cX11_trace 93 = .ok (.aload_n 0, 1) := by decide +kernel
theorem dX11_trace_94 : decode cX11_trace 94 = .ok (.getfield 83, 3) := by decide +kernel
theorem dX11_trace_97 : decode cX11_trace 97 = .ok (.iload 4, 2) := by decide +kernel
theorem dX11_trace_99 : decode cX11_trace 99 = .ok (.iconst 3, 1) := by decide +kernel
theorem dX11_trace_100 : decode cX11_trace 100 = .ok (.iload_n 3, 1) := by decide +kernel
theorem dX11_trace_101 : decode cX11_trace 101 = .ok (.imul, 1) := by decide +kernel
theorem dX11_trace_102 : decode cX11_trace 102 = .ok (.iadd, 1) := by decide +kernel
theorem dX11_trace_103 : decode cX11_trace 103 = .ok (.iaload, 1) := by decide +kernel
theorem dX11_trace_104 : decode cX11_trace 104 = .ok (.aload_n 0, 1) := by decide +kernel
theorem dX11_trace_105 : decode cX11_trace 105 = .ok (.getfield 83, 3) := by decide +kernel
theorem dX11_trace_108 : decode cX11_trace 108 = .ok (.iload 4, 2) := by decide +kernel
theorem dX11_trace_110 : decode cX11_trace 110 = .ok (.iconst 3, 1) := by decide +kernel
theorem dX11_trace_111 : decode cX11_trace 111 = .ok (.iload_n 3, 1) := by decide +kernel
theorem dX11_trace_112 : decode cX11_trace 112 = .ok (.imul, 1) := by decide +kernel
theorem dX11_trace_113 : decode cX11_trace 113 = .ok (.iadd, 1) := by decide +kernel
theorem dX11_trace_114 : decode cX11_trace 114 = .ok (.iconst 1, 1) := by decide +kernel
theorem dX11_trace_115 : decode cX11_trace 115 = .ok (.iadd, 1) := by decide +kernel
theorem dX11_trace_116 : decode cX11_trace 116 = .ok (.iaload, 1) := by decide +kernel
theorem dX11_trace_117 : decode cX11_trace 117 = .ok (.aload_n 0, 1) := by decide +kernel
theorem dX11_trace_118 : decode cX11_trace 118 = .ok (.getfield 83, 3) := by decide +kernel
theorem dX11_trace_121 : decode cX11_trace 121 = .ok (.iload 4, 2) := by decide +kernel
theorem dX11_trace_123 : decode cX11_trace 123 = .ok (.iconst 3, 1) := by decide +kernel
theorem dX11_trace_124 : decode cX11_trace 124 = .ok (.iload_n 3, 1) := by decide +kernel
theorem dX11_trace_125 : decode cX11_trace 125 = .ok (.imul, 1) := by decide +kernel
theorem dX11_trace_126 : decode cX11_trace 126 = .ok (.iadd, 1) := by decide +kernel
theorem dX11_trace_127 : decode cX11_trace 127 = .ok (.iconst 2, 1) := by decide +kernel
theorem dX11_trace_128 : decode cX11_trace 128 = .ok (.iadd, 1) := by decide +kernel
theorem dX11_trace_129 : decode cX11_trace 129 = .ok (.iaload, 1) := by decide +kernel
theorem dX11_trace_130 : decode cX11_trace 130 = .ok (.invokevirtual 275, 3) := by decide +kernel
theorem dX11_trace_133 : decode cX11_trace 133 = .ok (.iinc 3 1, 3) := by decide +kernel
theorem dX11_trace_136 : decode cX11_trace 136 = .ok (.goto (-89), 3) := by decide +kernel
theorem dX11_trace_139 : decode cX11_trace 139 = .ok (.iload_n 3, 1) := by decide +kernel
theorem dX11_trace_140 : decode cX11_trace 140 = .ok (.ireturn, 1) := by decide +kernel
theorem dX11_told_0 : decode cX11_told 0 = .ok (.iload_n 1, 1) := by decide +kernel
theorem dX11_told_1 : decode cX11_told 1 = .ok (.tableswitch 78 0 6 #[43, 48, 53, 58, 63, 68, 73], 43) := by decide +kernel
theorem dX11_told_44 : decode cX11_told 44 = .ok (.aload_n 0, 1) := by decide +kernel
theorem dX11_told_45 : decode cX11_told 45 = .ok (.getfield 118, 3) := by decide +kernel
theorem dX11_told_48 : decode cX11_told 48 = .ok (.ireturn, 1) := by decide +kernel
theorem dX11_told_49 : decode cX11_told 49 = .ok (.aload_n 0, 1) := by decide +kernel
theorem dX11_told_50 : decode cX11_told 50 = .ok (.getfield 125, 3) := by decide +kernel
theorem dX11_told_53 : decode cX11_told 53 = .ok (.ireturn, 1) := by decide +kernel
theorem dX11_told_54 : decode cX11_told 54 = .ok (.aload_n 0, 1) := by decide +kernel
theorem dX11_told_55 : decode cX11_told 55 = .ok (.getfield 184, 3) := by decide +kernel
theorem dX11_told_58 : decode cX11_told 58 = .ok (.ireturn, 1) := by decide +kernel
theorem dX11_told_59 : decode cX11_told 59 = .ok (.aload_n 0, 1) := by decide +kernel
theorem dX11_told_60 : decode cX11_told 60 = .ok (.getfield 128, 3) := by decide +kernel
theorem dX11_told_63 : decode cX11_told 63 = .ok (.ireturn, 1) := by decide +kernel
theorem dX11_told_64 : decode cX11_told 64 = .ok (.aload_n 0, 1) := by decide +kernel
theorem dX11_told_65 : decode cX11_told 65 = .ok (.getfield 245, 3) := by decide +kernel
theorem dX11_told_68 : decode cX11_told 68 = .ok (.ireturn, 1) := by decide +kernel
theorem dX11_told_69 : decode cX11_told 69 = .ok (.aload_n 0, 1) := by decide +kernel
theorem dX11_told_70 : decode cX11_told 70 = .ok (.getfield 159, 3) := by decide +kernel
theorem dX11_told_73 : decode cX11_told 73 = .ok (.ireturn, 1) := by decide +kernel
theorem dX11_told_74 : decode cX11_told 74 = .ok (.aload_n 0, 1) := by decide +kernel
theorem dX11_told_75 : decode cX11_told 75 = .ok (.getfield 114, 3) := by decide +kernel
theorem dX11_told_78 : decode cX11_told 78 = .ok (.ireturn, 1) := by decide +kernel
theorem dX11_told_79 : decode cX11_told 79 = .ok (.aload_n 0, 1) := by decide +kernel
theorem dX11_told_80 : decode cX11_told 80 = .ok (.ldc 131, 2) := by decide +kernel
theorem dX11_told_82 : decode cX11_told 82 = .ok (.invokevirtual 132, 3) := by decide +kernel
theorem dX11_told_85 : decode cX11_told 85 = .ok (.ireturn, 1) := by decide +kernel
