theorem dX11_init_0 : decode cX11_init 0 = .ok (.aload_n 0, 1) := by decide +kernel
theorem dX11_init_1 : decode cX11_init 1 = .ok (.invokespecial 1, 3) := by decide +kernel
theorem dX11_init_4 : decode cX11_init 4 = .ok (.aload_n 0, 1) := by decide +kernel
theorem dX11_init_5 : decode cX11_init 5 = .ok (.bipush 8, 2) := by decide +kernel
theorem dX11_init_7 : decode cX11_init 7 = .ok (.newarray .int, 2) := by decide +kernel
theorem dX11_init_9 : decode cX11_init 9 = .ok (.putfield 9, 3) := by decide +kernel
theorem dX11_init_12 : decode cX11_init 12 = .ok (.aload_n 0, 1) := by decide +kernel
theorem dX11_init_13 : decode cX11_init 13 = .ok (.bipush 8, 2) := by decide +kernel
theorem dX11_init_15 : decode cX11_init 15 = .ok (.newarray .int, 2) := by decide +kernel
theorem dX11_init_17 : decode cX11_init 17 = .ok (.putfield 13, 3) := by decide +kernel
theorem dX11_init_20 : decode cX11_init 20 = .ok (.aload_n 0, 1) := by decide +kernel
theorem dX11_init_21 : decode cX11_init 21 = .ok (.bipush 14, 2) := by decide +kernel
theorem dX11_init_23 : decode cX11_init 23 = .ok (.newarray .int, 2) := by decide +kernel
theorem dX11_init_25 : decode cX11_init 25 = .ok (.putfield 16, 3) := by decide +kernel
theorem dX11_init_28 : decode cX11_init 28 = .ok (.aload_n 0, 1) := by decide +kernel
theorem dX11_init_29 : decode cX11_init 29 = .ok (.bipush 14, 2) := by decide +kernel
theorem dX11_init_31 : decode cX11_init 31 = .ok (.newarray .int, 2) := by decide +kernel
theorem dX11_init_33 : decode cX11_init 33 = .ok (.putfield 19, 3) := by decide +kernel
theorem dX11_init_36 : decode cX11_init 36 = .ok (.aload_n 0, 1) := by decide +kernel
theorem dX11_init_37 : decode cX11_init 37 = .ok (.bipush 14, 2) := by decide +kernel
theorem dX11_init_39 : decode cX11_init 39 = .ok (.newarray .int, 2) := by decide +kernel
theorem dX11_init_41 : decode cX11_init 41 = .ok (.putfield 22, 3) := by decide +kernel
theorem dX11_init_44 : decode cX11_init 44 = .ok (.aload_n 0, 1) := by decide +kernel
theorem dX11_init_45 : decode cX11_init 45 = .ok (.bipush 14, 2) := by decide +kernel
theorem dX11_init_47 : decode cX11_init 47 = .ok (.newarray .boolean, 2) := by decide +kernel
theorem dX11_init_49 : decode cX11_init 49 = .ok (.putfield 25, 3) := by decide +kernel
theorem dX11_init_52 : decode cX11_init 52 = .ok (.aload_n 0, 1) := by decide +kernel
theorem dX11_init_53 : decode cX11_init 53 = .ok (.bipush 14, 2) := by decide +kernel
theorem dX11_init_55 : decode cX11_init 55 = .ok (.newarray .int, 2) := by decide +kernel
theorem dX11_init_57 : decode cX11_init 57 = .ok (.putfield 29, 3) := by decide +kernel
theorem dX11_init_60 : decode cX11_init 60 = .ok (.aload_n 0, 1) := by decide +kernel
theorem dX11_init_61 : decode cX11_init 61 = .ok (.iconst 4, 1) := by decide +kernel
theorem dX11_init_62 : decode cX11_init 62 = .ok (.newarray .int, 2) := by decide +kernel
theorem dX11_init_64 : decode cX11_init 64 = .ok (.putfield 32, 3) := by decide +kernel
theorem dX11_init_67 : decode cX11_init 67 = .ok (.aload_n 0, 1) := by decide +kernel
theorem dX11_init_68 : decode cX11_init 68 = .ok (.bipush 48, 2) := by decide +kernel
theorem dX11_init_70 : decode cX11_init 70 = .ok (.newarray .int, 2) := by decide +kernel
theorem dX11_init_72 : decode cX11_init 72 = .ok (.putfield 35, 3) := by decide +kernel
theorem dX11_init_75 : decode cX11_init 75 = .ok (.aload_n 0, 1) := by decide +kernel
theorem dX11_init_76 : decode cX11_init 76 = .ok (.bipush 48, 2) := by decide +kernel
theorem dX11_init_78 : decode cX11_init 78 = .ok (.newarray .int, 2) := by decide +kernel
theorem dX11_init_80 : decode cX11_init 80 = .ok (.putfield 38, 3) := by decide +kernel
theorem dX11_init_83 : decode cX11_init 83 = .ok (.aload_n 0, 1) := by decide +kernel
theorem dX11_init_84 : decode cX11_init 84 = .ok (.bipush 48, 2) := by decide +kernel
theorem dX11_init_86 : decode cX11_init 86 = .ok (.newarray .int, 2) := by decide +kernel
theorem dX11_init_88 : decode cX11_init 88 = .ok (.putfield 41, 3) := by decide +kernel
theorem dX11_init_91 : decode cX11_init 91 = .ok (.aload_n 0, 1) := by decide +kernel
theorem dX11_init_92 : decode cX11_init 92 = .ok (.bipush 48, 2) := by decide +kernel
theorem dX11_init_94 : decode cX11_init 94 = .ok (.newarray .int, 2) := by decide +kernel
theorem dX11_init_96 : decode cX11_init 96 = .ok (.putfield 44, 3) := by decide +kernel
theorem dX11_init_99 : decode cX11_init 99 = .ok (.aload_n 0, 1) := by decide +kernel
theorem dX11_init_100 : decode cX11_init 100 = .ok (.bipush 48, 2) := by decide +kernel
theorem dX11_init_102 : decode cX11_init 102 = .ok (.newarray .int, 2) := by decide +kernel
theorem dX11_init_104 : decode cX11_init 104 = .ok (.putfield 47, 3) := by decide +kernel
theorem dX11_init_107 : decode cX11_init 107 = .ok (.aload_n 0, 1) := by decide +kernel
theorem dX11_init_108 : decode cX11_init 108 = .ok (.sipush 200, 3) := by decide +kernel
theorem dX11_init_111 : decode cX11_init 111 = .ok (.newarray .int, 2) := by decide +kernel
theorem dX11_init_113 : decode cX11_init 113 = .ok (.putfield 50, 3) := by decide +kernel
theorem dX11_init_116 : decode cX11_init 116 = .ok (.aload_n 0, 1) := by decide +kernel
theorem dX11_init_117 : decode cX11_init 117 = .ok (.bipush 6, 2) := by decide +kernel
theorem dX11_init_119 : decode cX11_init 119 = .ok (.newarray .int, 2) := by decide +kernel
theorem dX11_init_121 : decode cX11_init 121 = .ok (.putfield 53, 3) := by decide +kernel
theorem dX11_init_124 : decode cX11_init 124 = .ok (.aload_n 0, 1) := by decide +kernel
theorem dX11_init_125 : decode cX11_init 125 = .ok (.bipush 6, 2) := by decide +kernel
theorem dX11_init_127 : decode cX11_init 127 = .ok (.newarray .int, 2) := by decide +kernel
theorem dX11_init_129 : decode cX11_init 129 = .ok (.putfield 56, 3) := by decide +kernel
theorem dX11_init_132 : decode cX11_init 132 = .ok (.aload_n 0, 1) := by decide +kernel
theorem dX11_init_133 : decode cX11_init 133 = .ok (.bipush 6, 2) := by decide +kernel
theorem dX11_init_135 : decode cX11_init 135 = .ok (.newarray .int, 2) := by decide +kernel
theorem dX11_init_137 : decode cX11_init 137 = .ok (.putfield 59, 3) := by decide +kernel
theorem dX11_init_140 : decode cX11_init 140 = .ok (.aload_n 0, 1) := by decide +kernel
theorem dX11_init_141 : decode cX11_init 141 = .ok (.bipush 6, 2) := by decide +kernel
theorem dX11_init_143 : decode cX11_init 143 = .ok (.newarray .int, 2) := by decide +kernel
theorem dX11_init_145 : decode cX11_init 145 = .ok (.putfield 62, 3) := by decide +kernel
theorem dX11_init_148 : decode cX11_init 148 = .ok (.aload_n 0, 1) := by decide +kernel
theorem dX11_init_149 : decode cX11_init 149 = .ok (.bipush 6, 2) := by decide +kernel
theorem dX11_init_151 : decode cX11_init 151 = .ok (.newarray .boolean, 2) := by decide +kernel
theorem dX11_init_153 : decode cX11_init 153 = .ok (.putfield 65, 3) := by decide +kernel
theorem dX11_init_156 : decode cX11_init 156 = .ok (.aload_n 0, 1) := by decide +kernel
theorem dX11_init_157 : decode cX11_init 157 = .ok (.bipush 6, 2) := by decide +kernel
theorem dX11_init_159 : decode cX11_init 159 = .ok (.newarray .int, 2) := by decide +kernel
theorem dX11_init_161 : decode cX11_init 161 = .ok (.putfield 68, 3) := by decide +kernel
theorem dX11_init_164 : decode cX11_init 164 = .ok (.aload_n 0, 1) := by decide +kernel
theorem dX11_init_165 : decode cX11_init 165 = .ok (.bipush 6, 2) := by decide +kernel
theorem dX11_init_167 : decode cX11_init 167 = .ok (.newarray .int, 2) := by decide +kernel
theorem dX11_init_169 : decode cX11_init 169 = .ok (.putfield 71, 3) := by decide +kernel
theorem dX11_init_172 : decode cX11_init 172 = .ok (.aload_n 0, 1) := by decide +kernel
theorem dX11_init_173 : decode cX11_init 173 = .ok (.bipush 6, 2) := by decide +kernel
theorem dX11_init_175 : decode cX11_init 175 = .ok (.newarray .int, 2) := by decide +kernel
theorem dX11_init_177 : decode cX11_init 177 = .ok (.putfield 74, 3) := by decide +kernel
theorem dX11_init_180 : decode cX11_init 180 = .ok (.aload_n 0, 1) := by decide +kernel
theorem dX11_init_181 : decode cX11_init 181 = .ok (.iconst 4, 1) := by decide +kernel
theorem dX11_init_182 : decode cX11_init 182 = .ok (.newarray .int, 2) := by decide +kernel
theorem dX11_init_184 : decode cX11_init 184 = .ok (.putfield 77, 3) := by decide +kernel
theorem dX11_init_187 : decode cX11_init 187 = .ok (.aload_n 0, 1) := by decide +kernel
theorem dX11_init_188 : decode cX11_init 188 = .ok (.iconst 4, 1) := by decide +kernel
theorem dX11_init_189 : decode cX11_init 189 = .ok (.newarray .int, 2) := by decide +kernel
theorem dX11_init_191 : decode cX11_init 191 = .ok (.putfield 80, 3) := by decide +kernel
theorem dX11_init_194 : decode cX11_init 194 = .ok (.aload_n 0, 1) := by decide +kernel
theorem dX11_init_195 : decode cX11_init 195 = .ok (.bipush 48, 2) := by decide +kernel
theorem dX11_init_197 : decode cX11_init 197 = .ok (.newarray .int, 2) := by decide +kernel
theorem dX11_init_199 : decode cX11_init 199 = .ok (.putfield 83, 3) := by decide +kernel
theorem dX11_init_202 : decode cX11_init 202 = .ok (.aload_n 0, 1) := by decide +kernel
theorem dX11_init_203 : decode cX11_init 203 = .ok (.bipush 12, 2) := by decide +kernel
theorem dX11_init_205 : decode cX11_init 205 = .ok (.newarray .int, 2) := by decide +kernel
theorem dX11_init_207 : decode cX11_init 207 = .ok (.putfield 86, 3) := by decide +kernel
theorem dX11_init_210 : decode cX11_init 210 = .ok (.aload_n 0, 1) := by decide +kernel
theorem dX11_init_211 : decode cX11_init 211 = .ok (.bipush 12, 2) := by decide +kernel
theorem dX11_init_213 : decode cX11_init 213 = .ok (.newarray .int, 2) := by decide +kernel
theorem dX11_init_215 : decode cX11_init 215 = .ok (.putfield 89, 3) := by decide +kernel
theorem dX11_init_218 : decode cX11_init 218 = .ok (.aload_n 0, 1) := by decide +kernel
theorem dX11_init_219 : decode cX11_init 219 = .ok (.bipush 12, 2) := by decide +kernel
theorem dX11_init_221 : decode cX11_init 221 = .ok (.newarray .int, 2) := by decide +kernel
theorem dX11_init_223 : decode cX11_init 223 = .ok (.putfield 92, 3) := by decide +kernel
theorem dX11_init_226 : decode cX11_init 226 = .ok (.aload_n 0, 1) := by decide +kernel
theorem dX11_init_227 : decode cX11_init 227 = .ok (.bipush 12, 2) := by decide +kernel
theorem dX11_init_229 : decode cX11_init 229 = .ok (.newarray .int, 2) := by decide +kernel
theorem dX11_init_231 : decode cX11_init 231 = .ok (.putfield 95, 3) := by decide +kernel
theorem dX11_init_234 : decode cX11_init 234 = .ok (.aload_n 0, 1) := by decide +kernel
theorem dX11_init_235 : decode cX11_init 235 = .ok (.bipush 12, 2) := by decide +kernel
theorem dX11_init_237 : decode cX11_init 237 = .ok (.newarray .int, 2) := by decide +kernel
theorem dX11_init_239 : decode cX11_init 239 = .ok (.putfield 98, 3) := by decide +kernel
theorem dX11_init_242 : decode cX11_init 242 = .ok (.aload_n 0, 1) := by decide +kernel
theorem dX11_init_243 : decode cX11_init 243 = .ok (.ldc 101, 2) := by decide +kernel
theorem dX11_init_245 : decode cX11_init 245 = .ok (.newarray .int, 2) := by decide +kernel
theorem dX11_init_247 : decode cX11_init 247 = .ok (.putfield 102, 3) := by decide +kernel
theorem dX11_init_250 : decode cX11_init 250 = .ok (.aload_n 0, 1) := by decide +kernel
theorem dX11_init_251 : decode cX11_init 251 = .ok (.ldc 101, 2) := by decide +kernel
theorem dX11_init_253 : decode cX11_init 253 = .ok (.newarray .boolean, 2) := by decide +kernel
theorem dX11_init_255 : decode cX11_init 255 = .ok (.putfield 105, 3) := by decide +kernel
theorem dX11_init_258 : decode cX11_init 258 = .ok (.aload_n 0, 1) := by decide +kernel
theorem dX11_init_259 : decode cX11_init 259 = .ok (.ldc 101, 2) := by decide +kernel
theorem dX11_init_261 : decode cX11_init 261 = .ok (.newarray .int, 2) := by decide +kernel
theorem dX11_init_263 : decode cX11_init 263 = .ok (.putfield 108, 3) := by decide +kernel
theorem dX11_init_266 : decode cX11_init 266 = .ok (.aload_n 0, 1) := by decide +kernel
theorem dX11_init_267 : decode cX11_init 267 = .ok (.bipush 12, 2) := by decide +kernel
theorem dX11_init_269 : decode cX11_init 269 = .ok (.newarray .int, 2) := by decide +kernel
theorem dX11_init_271 : decode cX11_init 271 = .ok (.putfield 111, 3) := by decide +kernel
theorem dX11_init_274 : decode cX11_init 274 = .ok (.return_, 1) := by decide +kernel
theorem dX11_finding_0 : decode cX11_finding 0 = .ok (.aload_n 0, 1) := by decide +kernel
theorem dX11_finding_1 : decode cX11_finding 1 = .ok (.dup, 1) := by decide +kernel
theorem dX11_finding_2 : decode cX11_finding 2 = .ok (.getfield 114, 3) := by decide +kernel
theorem dX11_finding_5 : decode cX11_finding 5 = .ok (.iconst 1, 1) := by decide +kernel
theorem dX11_finding_6 : decode cX11_finding 6 = .ok (.iadd, 1) := by decide +kernel
theorem dX11_finding_7 : decode cX11_finding 7 = .ok (.putfield 114, 3) := by decide +kernel
theorem dX11_finding_10 : decode cX11_finding 10 = .ok (.iload_n 1, 1) := by decide +kernel
theorem dX11_finding_11 : decode cX11_finding 11 = .ok (.ireturn, 1) := by decide +kernel
theorem dX11_within_0 : decode cX11_within 0 = .ok (.iload_n 0, 1) := by decide +kernel
theorem dX11_within_1 : decode cX11_within 1 = .ok (.iload_n 1, 1) := by decide +kernel
theorem dX11_within_2 : decode cX11_within 2 = .ok (.if_icmp .lt 12, 3) := by decide +kernel
theorem dX11_within_5 : decode cX11_within 5 = .ok (.iload_n 0, 1) := by decide +kernel
theorem dX11_within_6 : decode cX11_within 6 = .ok (.iload_n 2, 1) := by decide +kernel
theorem dX11_within_7 : decode cX11_within 7 = .ok (.if_icmp .gt 7, 3) := by decide +kernel
theorem dX11_within_10 : decode cX11_within 10 = .ok (.iconst 1, 1) := by decide +kernel
theorem dX11_within_11 : decode cX11_within 11 = .ok (.goto 4, 3) := by decide +kernel
theorem dX11_within_14 : decode cX11_within 14 = .ok (.iconst 0, 1) := by decide +kernel
theorem dX11_within_15 : decode cX11_within 15 = .ok (.ireturn, 1) := by decide +kernel
theorem dX11_isCorner_0 : decode cX11_isCorner 0 = .ok (.iload_n 1, 1) := by decide +kernel
theorem dX11_isCorner_1 : decode cX11_isCorner 1 = .ok (.iconst 0, 1) := by decide +kernel
theorem dX11_isCorner_2 : decode cX11_isCorner 2 = .ok (.aload_n 0, 1) := by decide +kernel
theorem dX11_isCorner_3 : decode cX11_isCorner 3 = .ok (.getfield 118, 3) := by decide +kernel
theorem dX11_isCorner_6 : decode cX11_isCorner 6 = .ok (.iconst 1, 1) := by decide +kernel
theorem dX11_isCorner_7 : decode cX11_isCorner 7 = .ok (.isub, 1) := by decide +kernel
theorem dX11_isCorner_8 : decode cX11_isCorner 8 = .ok (.invokestatic 121, 3) := by decide +kernel
theorem dX11_isCorner_11 : decode cX11_isCorner 11 = .ok (.ireturn, 1) := by decide +kernel
theorem dX11_isWay_0 : decode cX11_isWay 0 = .ok (.iload_n 1, 1) := by decide +kernel
theorem dX11_isWay_1 : decode cX11_isWay 1 = .ok (.iconst 0, 1) := by decide +kernel
theorem dX11_isWay_2 : decode cX11_isWay 2 = .ok (.aload_n 0, 1) := by decide +kernel
theorem dX11_isWay_3 : decode cX11_isWay 3 = .ok (.getfield 125, 3) := by decide +kernel
theorem dX11_isWay_6 : decode cX11_isWay 6 = .ok (.iconst 1, 1) := by decide +kernel
theorem dX11_isWay_7 : decode cX11_isWay 7 = .ok (.isub, 1) := by decide +kernel
theorem dX11_isWay_8 : decode cX11_isWay 8 = .ok (.invokestatic 121, 3) := by decide +kernel
theorem dX11_isWay_11 : decode cX11_isWay 11 = .ok (.ireturn, 1) := by decide +kernel
theorem dX11_isWalker_0 : decode cX11_isWalker 0 = .ok (.iload_n 1, 1) := by decide +kernel
theorem dX11_isWalker_1 : decode cX11_isWalker 1 = .ok (.iconst 0, 1) := by decide +kernel
theorem dX11_isWalker_2 : decode cX11_isWalker 2 = .ok (.aload_n 0, 1) := by decide +kernel
theorem dX11_isWalker_3 : decode cX11_isWalker 3 = .ok (.getfield 128, 3) := by decide +kernel
theorem dX11_isWalker_6 : decode cX11_isWalker 6 = .ok (.iconst 1, 1) := by decide +kernel
theorem dX11_isWalker_7 : decode cX11_isWalker 7 = .ok (.isub, 1) := by decide +kernel
theorem dX11_isWalker_8 : decode cX11_isWalker 8 = .ok (.invokestatic 121, 3) := by decide +kernel
theorem dX11_isWalker_11 : decode cX11_isWalker 11 = .ok (.ireturn, 1) := by decide +kernel
theorem dX11_isDay_0 : decode cX11_isDay 0 = .ok (.iload_n 0, 1) := by decide +kernel
theorem dX11_isDay_1 : decode cX11_isDay 1 = .ok (.iconst 0, 1) := by decide +kernel
theorem dX11_isDay_2 : decode cX11_isDay 2 = .ok (.bipush 6, 2) := by decide +kernel
theorem dX11_isDay_4 : decode cX11_isDay 4 = .ok (.invokestatic 121, 3) := by decide +kernel
theorem dX11_isDay_7 : decode cX11_isDay 7 = .ok (.ireturn, 1) := by decide +kernel
theorem dX11_corner_0 : decode cX11_corner 0 = .ok (.iload_n 1, 1) := by decide +kernel
theorem dX11_corner_1 : decode cX11_corner 1 = .ok (.iconst 0, 1) := by decide +kernel
theorem dX11_corner_2 : decode cX11_corner 2 = .ok (.bipush 99, 2) := by decide +kernel
theorem dX11_corner_4 : decode cX11_corner 4 = .ok (.invokestatic 121, 3) := by decide +kernel
theorem dX11_corner_7 : decode cX11_corner 7 = .ok (.ifCond .eq 13, 3) := by decide +kernel
theorem dX11_corner_10 : decode cX11_corner 10 = .ok (.iload_n 2, 1) := by decide +kernel
theorem dX11_corner_11 : decode cX11_corner 11 = .ok (.iconst 0, 1) := by decide +kernel
theorem dX11_corner_12 : decode cX11_corner 12 = .ok (.bipush 99, 2) := by decide +kernel
theorem dX11_corner_14 : decode cX11_corner 14 = .ok (.invokestatic 121, 3) := by decide +kernel
theorem dX11_corner_17 : decode cX11_corner 17 = .ok (.ifCond .ne 10, 3) := by decide +kernel
theorem dX11_corner_20 : decode cX11_corner 20 = .ok (.aload_n 0, 1) := by decide +kernel
theorem dX11_corner_21 : decode cX11_corner 21 = .ok (.ldc 131, 2) := by decide +kernel
theorem dX11_corner_23 : decode cX11_corner 23 = .ok (.invokevirtual 132, 3) := by decide +kernel
theorem dX11_corner_26 : decode cX11_corner 26 = .ok (.ireturn, 1) := by decide +kernel
theorem dX11_corner_27 : decode cX11_corner 27 = .ok (.aload_n 0, 1) := by decide +kernel
theorem dX11_corner_28 : decode cX11_corner 28 = .ok (.getfield 118, 3) := by decide +kernel
theorem dX11_corner_31 : decode cX11_corner 31 = .ok (.bipush 8, 2) := by decide +kernel
theorem dX11_corner_33 : decode cX11_corner 33 = .ok (.if_icmp .ne 10, 3) := by decide +kernel
theorem dX11_corner_36 : decode cX11_corner 36 = .ok (.aload_n 0, 1) := by decide +kernel
theorem dX11_corner_37 : decode cX11_corner 37 = .ok (.ldc 136, 2) := by decide +kernel
theorem dX11_corner_39 : decode cX11_corner 39 = .ok (.invokevirtual 132, 3) := by decide +kernel
theorem dX11_corner_42 : decode cX11_corner 42 = .ok (.ireturn, 1) := by decide +kernel
theorem dX11_corner_43 : decode cX11_corner 43 = .ok (.aload_n 0, 1) := by decide +kernel
theorem dX11_corner_44 : decode cX11_corner 44 = .ok (.getfield 9, 3) := by decide +kernel
theorem dX11_corner_47 : decode cX11_corner 47 = .ok (.aload_n 0, 1) := by decide +kernel
theorem dX11_corner_48 : decode cX11_corner 48 = .ok (.getfield 118, 3) := by decide +kernel
theorem dX11_corner_51 : decode cX11_corner 51 = .ok (.iload_n 1, 1) := by decide +kernel
theorem dX11_corner_52 : decode cX11_corner 52 = .ok (.iastore, 1) := by decide +kernel
theorem dX11_corner_53 : decode cX11_corner 53 = .ok (.aload_n 0, 1) := by decide +kernel
theorem dX11_corner_54 : decode cX11_corner 54 = .ok (.getfield 13, 3) := by decide +kernel
theorem dX11_corner_57 : decode cX11_corner 57 = .ok (.aload_n 0, 1) := by decide +kernel
theorem dX11_corner_58 : decode cX11_corner 58 = .ok (.getfield 118, 3) := by decide +kernel
theorem dX11_corner_61 : decode cX11_corner 61 = .ok (.iload_n 2, 1) := by decide +kernel
theorem dX11_corner_62 : decode cX11_corner 62 = .ok (.iastore, 1) := by decide +kernel
theorem dX11_corner_63 : decode cX11_corner 63 = .ok (.aload_n 0, 1) := by decide +kernel
theorem dX11_corner_64 : decode cX11_corner 64 = .ok (.dup, 1) := by decide +kernel
theorem dX11_corner_65 : decode cX11_corner 65 = .ok (.getfield 118, 3) := by decide +kernel
theorem dX11_corner_68 : decode cX11_corner 68 = .ok (.iconst 1, 1) := by decide +kernel
theorem dX11_corner_69 : decode cX11_corner 69 = .ok (.iadd, 1) := by decide +kernel
theorem dX11_corner_70 : decode cX11_corner 70 = .ok (.putfield 118, 3) := by decide +kernel
theorem dX11_corner_73 : decode cX11_corner 73 = .ok (.aload_n 0, 1) := by decide +kernel
theorem dX11_corner_74 : decode cX11_corner 74 = .ok (.getfield 118, 3) := by decide +kernel
theorem dX11_corner_77 : decode cX11_corner 77 = .ok (.iconst 1, 1) := by decide +kernel
theorem dX11_corner_78 : decode cX11_corner 78 = .ok (.isub, 1) := by decide +kernel
theorem dX11_corner_79 : decode cX11_corner 79 = .ok (.ireturn, 1) := by decide +kernel
theorem dX11_way_0 : decode cX11_way 0 = .ok (.aload_n 0, 1) := by decide +kernel
theorem dX11_way_1 : decode cX11_way 1 = .ok (.iload_n 1, 1) := by decide +kernel
theorem dX11_way_2 : decode cX11_way 2 = .ok (.invokevirtual 137, 3) := by decide +kernel
theorem dX11_way_5 : decode cX11_way 5 = .ok (.ifCond .eq 26, 3) := by decide +kernel
theorem dX11_way_8 : decode cX11_way 8 = .ok (.aload_n 0, 1) := by decide +kernel
theorem dX11_way_9 : decode cX11_way 9 = .ok (.iload_n 2, 1) := by decide +kernel
theorem dX11_way_10 : decode cX11_way 10 = .ok (.invokevirtual 137, 3) := by decide +kernel
theorem dX11_way_13 : decode cX11_way 13 = .ok (.ifCond .eq 18, 3) := by decide +kernel
theorem dX11_way_16 : decode cX11_way 16 = .ok (.iload_n 1, 1) := by decide +kernel
theorem dX11_way_17 : decode cX11_way 17 = .ok (.iload_n 2, 1) := by decide +kernel
theorem dX11_way_18 : decode cX11_way 18 = .ok (.if_icmp .eq 13, 3) := by decide +kernel
theorem dX11_way_21 : decode cX11_way 21 = .ok (.iload_n 3, 1) := by decide +kernel
theorem dX11_way_22 : decode cX11_way 22 = .ok (.iconst 1, 1) := by decide +kernel
theorem dX11_way_23 : decode cX11_way 23 = .ok (.bipush 20, 2) := by decide +kernel
theorem dX11_way_25 : decode cX11_way 25 = .ok (.invokestatic 121, 3) := by decide +kernel
theorem dX11_way_28 : decode cX11_way 28 = .ok (.ifCond .ne 10, 3) := by decide +kernel
theorem dX11_way_31 : decode cX11_way 31 = .ok (.aload_n 0, 1) := by decide +kernel
theorem dX11_way_32 : decode cX11_way 32 = .ok (.ldc 131, 2) := by decide +kernel
theorem dX11_way_34 : decode cX11_way 34 = .ok (.invokevirtual 132, 3) := by decide +kernel
theorem dX11_way_37 : decode cX11_way 37 = .ok (.ireturn, 1) := by decide +kernel
theorem dX11_way_38 : decode cX11_way 38 = .ok (.aload_n 0, 1) := by decide +kernel
theorem dX11_way_39 : decode cX11_way 39 = .ok (.getfield 125, 3) := by decide +kernel
theorem dX11_way_42 : decode cX11_way 42 = .ok (.bipush 14, 2) := by decide +kernel
theorem dX11_way_44 : decode cX11_way 44 = .ok (.if_icmp .ne 10, 3) := by decide +kernel
theorem dX11_way_47 : decode cX11_way 47 = .ok (.aload_n 0, 1) := by decide +kernel
theorem dX11_way_48 : decode cX11_way 48 = .ok (.ldc 136, 2) := by decide +kernel
theorem dX11_way_50 : decode cX11_way 50 = .ok (.invokevirtual 132, 3) := by decide +kernel
theorem dX11_way_53 : decode cX11_way 53 = .ok (.ireturn, 1) := by decide +kernel
theorem dX11_way_54 : decode cX11_way 54 = .ok (.aload_n 0, 1) := by decide +kernel
theorem dX11_way_55 : decode cX11_way 55 = .ok (.getfield 16, 3) := by decide +kernel
theorem dX11_way_58 : decode cX11_way 58 = .ok (.aload_n 0, 1) := by decide +kernel
theorem dX11_way_59 : decode cX11_way 59 = .ok (.getfield 125, 3) := by decide +kernel
theorem dX11_way_62 : decode cX11_way 62 = .ok (.iload_n 1, 1) := by decide +kernel
theorem dX11_way_63 : decode cX11_way 63 = .ok (.iastore, 1) := by decide +kernel
theorem dX11_way_64 : decode cX11_way 64 = .ok (.aload_n 0, 1) := by decide +kernel
theorem dX11_way_65 : decode cX11_way 65 = .ok (.getfield 19, 3) := by decide +kernel
theorem dX11_way_68 : decode cX11_way 68 = .ok (.aload_n 0, 1) := by decide +kernel
theorem dX11_way_69 : decode cX11_way 69 = .ok (.getfield 125, 3) := by decide +kernel
theorem dX11_way_72 : decode cX11_way 72 = .ok (.iload_n 2, 1) := by decide +kernel
theorem dX11_way_73 : decode cX11_way 73 = .ok (.iastore, 1) := by decide +kernel
theorem dX11_way_74 : decode cX11_way 74 = .ok (.aload_n 0, 1) := by decide +kernel
theorem dX11_way_75 : decode cX11_way 75 = .ok (.getfield 22, 3) := by decide +kernel
theorem dX11_way_78 : decode cX11_way 78 = .ok (.aload_n 0, 1) := by decide +kernel
theorem dX11_way_79 : decode cX11_way 79 = .ok (.getfield 125, 3) := by decide +kernel
theorem dX11_way_82 : decode cX11_way 82 = .ok (.iload_n 3, 1) := by decide +kernel
theorem dX11_way_83 : decode cX11_way 83 = .ok (.iastore, 1) := by decide +kernel
theorem dX11_way_84 : decode cX11_way 84 = .ok (.aload_n 0, 1) := by decide +kernel
theorem dX11_way_85 : decode cX11_way 85 = .ok (.getfield 25, 3) := by decide +kernel
theorem dX11_way_88 : decode cX11_way 88 = .ok (.aload_n 0, 1) := by decide +kernel
theorem dX11_way_89 : decode cX11_way 89 = .ok (.getfield 125, 3) := by decide +kernel
theorem dX11_way_92 : decode cX11_way 92 = .ok (.iload 4, 2) := by decide +kernel
theorem dX11_way_94 : decode cX11_way 94 = .ok (.bastore, 1) := by decide +kernel
theorem dX11_way_95 : decode cX11_way 95 = .ok (.aload_n 0, 1) := by decide +kernel
theorem dX11_way_96 : decode cX11_way 96 = .ok (.dup, 1) := by decide +kernel
theorem dX11_way_97 : decode cX11_way 97 = .ok (.getfield 125, 3) := by decide +kernel
theorem dX11_way_100 : decode cX11_way 100 = .ok (.iconst 1, 1) := by decide +kernel
theorem dX11_way_101 : decode cX11_way 101 = .ok (.iadd, 1) := by decide +kernel
theorem dX11_way_102 : decode cX11_way 102 = .ok (.putfield 125, 3) := by decide +kernel
theorem dX11_way_105 : decode cX11_way 105 = .ok (.aload_n 0, 1) := by decide +kernel
theorem dX11_way_106 : decode cX11_way 106 = .ok (.getfield 125, 3) := by decide +kernel
theorem dX11_way_109 : decode cX11_way 109 = .ok (.iconst 1, 1) := by decide +kernel
theorem dX11_way_110 : decode cX11_way 110 = .ok (.isub, 1) := by decide +kernel
theorem dX11_way_111 : decode cX11_way 111 = .ok (.ireturn, 1) := by decide +kernel
theorem dX11_shut_0 : decode cX11_shut 0 = .ok (.aload_n 0, 1) := by decide +kernel
theorem dX11_shut_1 : decode cX11_shut 1 = .ok (.iload_n 1, 1) := by decide +kernel
theorem dX11_shut_2 : decode cX11_shut 2 = .ok (.invokevirtual 141, 3) := by decide +kernel
theorem dX11_shut_5 : decode cX11_shut 5 = .ok (.ifCond .eq 13, 3) := by decide +kernel
theorem dX11_shut_8 : decode cX11_shut 8 = .ok (.iload_n 2, 1) := by decide +kernel
theorem dX11_shut_9 : decode cX11_shut 9 = .ok (.iconst 0, 1) := by decide +kernel
theorem dX11_shut_10 : decode cX11_shut 10 = .ok (.bipush 127, 2) := by decide +kernel
theorem dX11_shut_12 : decode cX11_shut 12 = .ok (.invokestatic 121, 3) := by decide +kernel
theorem dX11_shut_15 : decode cX11_shut 15 = .ok (.ifCond .ne 10, 3) := by decide +kernel
theorem dX11_shut_18 : decode cX11_shut 18 = .ok (.aload_n 0, 1) := by decide +kernel
theorem dX11_shut_19 : decode cX11_shut 19 = .ok (.ldc 131, 2) := by decide +kernel
theorem dX11_shut_21 : decode cX11_shut 21 = .ok (.invokevirtual 132, 3) := by decide +kernel
theorem dX11_shut_24 : decode cX11_shut 24 = .ok (.ireturn, 1) := by decide +kernel
theorem dX11_shut_25 : decode cX11_shut 25 = .ok (.aload_n 0, 1) := by decide +kernel
theorem dX11_shut_26 : decode cX11_shut 26 = .ok (.getfield 29, 3) := by decide +kernel
theorem dX11_shut_29 : decode cX11_shut 29 = .ok (.iload_n 1, 1) := by decide +kernel
theorem dX11_shut_30 : decode cX11_shut 30 = .ok (.iaload, 1) := by decide +kernel
theorem dX11_shut_31 : decode cX11_shut 31 = .ok (.istore_n 3, 1) := by decide +kernel
theorem dX11_shut_32 : decode cX11_shut 32 = .ok (.aload_n 0, 1) := by decide +kernel
theorem dX11_shut_33 : decode cX11_shut 33 = .ok (.getfield 29, 3) := by decide +kernel
theorem dX11_shut_36 : decode cX11_shut 36 = .ok (.iload_n 1, 1) := by decide +kernel
theorem dX11_shut_37 : decode cX11_shut 37 = .ok (.iload_n 2, 1) := by decide +kernel
theorem dX11_shut_38 : decode cX11_shut 38 = .ok (.iastore, 1) := by decide +kernel
theorem dX11_shut_39 : decode cX11_shut 39 = .ok (.iload_n 3, 1) := by decide +kernel
theorem dX11_shut_40 : decode cX11_shut 40 = .ok (.ireturn, 1) := by decide +kernel
theorem dX11_isOpen_0 : decode cX11_isOpen 0 = .ok (.aload_n 0, 1) := by decide +kernel
theorem dX11_isOpen_1 : decode cX11_isOpen 1 = .ok (.getfield 29, 3) := by decide +kernel
theorem dX11_isOpen_4 : decode cX11_isOpen 4 = .ok (.iload_n 1, 1) := by decide +kernel
theorem dX11_isOpen_5 : decode cX11_isOpen 5 = .ok (.iaload, 1) := by decide +kernel
theorem dX11_isOpen_6 : decode cX11_isOpen 6 = .ok (.iload_n 2, 1) := by decide +kernel
theorem dX11_isOpen_7 : decode cX11_isOpen 7 = .ok (.ishr, 1) := by decide +kernel
theorem dX11_isOpen_8 : decode cX11_isOpen 8 = .ok (.iconst 1, 1) := by decide +kernel
theorem dX11_isOpen_9 : decode cX11_isOpen 9 = .ok (.iand, 1) := by decide +kernel
theorem dX11_isOpen_10 : decode cX11_isOpen 10 = .ok (.ifCond .ne 20, 3) := by decide +kernel
theorem dX11_isOpen_13 : decode cX11_isOpen 13 = .ok (.iload_n 3, 1) := by decide +kernel
theorem dX11_isOpen_14 : decode cX11_isOpen 14 = .ok (.ifCond .ne 12, 3) := by decide +kernel
theorem dX11_isOpen_17 : decode cX11_isOpen 17 = .ok (.aload_n 0, 1) := by decide +kernel
theorem dX11_isOpen_18 : decode cX11_isOpen 18 = .ok (.getfield 25, 3) := by decide +kernel
theorem dX11_isOpen_21 : decode cX11_isOpen 21 = .ok (.iload_n 1, 1) := by decide +kernel
theorem dX11_isOpen_22 : decode cX11_isOpen 22 = .ok (.baload, 1) := by decide +kernel
theorem dX11_isOpen_23 : decode cX11_isOpen 23 = .ok (.ifCond .ne 7, 3) := by decide +kernel
theorem dX11_isOpen_26 : decode cX11_isOpen 26 = .ok (.iconst 1, 1) := by decide +kernel
theorem dX11_isOpen_27 : decode cX11_isOpen 27 = .ok (.goto 4, 3) := by decide +kernel
theorem dX11_isOpen_30 : decode cX11_isOpen 30 = .ok (.iconst 0, 1) := by decide +kernel
theorem dX11_isOpen_31 : decode cX11_isOpen 31 = .ok (.ireturn, 1) := by decide +kernel
theorem dX11_far_0 : decode cX11_far 0 = .ok (.aload_n 0, 1) := by decide +kernel
theorem dX11_far_1 : decode cX11_far 1 = .ok (.iload_n 1, 1) := by decide +kernel
theorem dX11_far_2 : decode cX11_far 2 = .ok (.invokevirtual 137, 3) := by decide +kernel
theorem dX11_far_5 : decode cX11_far 5 = .ok (.ifCond .eq 18, 3) := by decide +kernel
theorem dX11_far_8 : decode cX11_far 8 = .ok (.aload_n 0, 1) := by decide +kernel
theorem dX11_far_9 : decode cX11_far 9 = .ok (.iload_n 2, 1) := by decide +kernel
theorem dX11_far_10 : decode cX11_far 10 = .ok (.invokevirtual 137, 3) := by decide +kernel
theorem dX11_far_13 : decode cX11_far 13 = .ok (.ifCond .eq 10, 3) := by decide +kernel
theorem dX11_far_16 : decode cX11_far 16 = .ok (.iload_n 3, 1) := by decide +kernel
theorem dX11_far_17 : decode cX11_far 17 = .ok (.invokestatic 144, 3) := by decide +kernel
theorem dX11_far_20 : decode cX11_far 20 = .ok (.ifCond .ne 10, 3) := by decide +kernel
theorem dX11_far_23 : decode cX11_far 23 = .ok (.aload_n 0, 1) := by decide +kernel
theorem dX11_far_24 : decode cX11_far 24 = .ok (.ldc 131, 2) := by decide +kernel
theorem dX11_far_26 : decode cX11_far 26 = .ok (.invokevirtual 132, 3) := by decide +kernel
theorem dX11_far_29 : decode cX11_far 29 = .ok (.ireturn, 1) := by decide +kernel
theorem dX11_far_30 : decode cX11_far 30 = .ok (.bipush 8, 2) := by decide +kernel
theorem dX11_far_32 : decode cX11_far 32 = .ok (.newarray .int, 2) := by decide +kernel
theorem dX11_far_34 : decode cX11_far 34 = .ok (.astore 5, 2) := by decide +kernel
theorem dX11_far_36 : decode cX11_far 36 = .ok (.iconst 0, 1) := by decide +kernel
theorem dX11_far_37 : decode cX11_far 37 = .ok (.istore 6, 2) := by decide +kernel
theorem dX11_far_39 : decode cX11_far 39 = .ok (.iload 6, 2) := by decide +kernel
theorem dX11_far_41 : decode cX11_far 41 = .ok (.aload_n 0, 1) := by decide +kernel
theorem dX11_far_42 : decode cX11_far 42 = .ok (.getfield 118, 3) := by decide +kernel
theorem dX11_far_45 : decode cX11_far 45 = .ok (.if_icmp .ge 26, 3) := by decide +kernel
theorem dX11_far_48 : decode cX11_far 48 = .ok (.aload 5, 2) := by decide +kernel
theorem dX11_far_50 : decode cX11_far 50 = .ok (.iload 6, 2) := by decide +kernel
theorem dX11_far_52 : decode cX11_far 52 = .ok (.iload 6, 2) := by decide +kernel
theorem dX11_far_54 : decode cX11_far 54 = .ok (.iload_n 2, 1) := by decide +kernel
theorem dX11_far_55 : decode cX11_far 55 = .ok (.if_icmp .ne 7, 3) := by decide +kernel
theorem dX11_far_58 : decode cX11_far 58 = .ok (.iconst 0, 1) := by decide +kernel
theorem dX11_far_59 : decode cX11_far 59 = .ok (.goto 5, 3) := by decide +kernel
theorem dX11_far_62 : decode cX11_far 62 = .ok (.ldc 147, 2) := by decide +kernel
theorem dX11_far_64 : decode cX11_far 64 = .ok (.iastore, 1) := by decide +kernel
theorem dX11_far_65 : decode cX11_far 65 = .ok (.iinc 6 1, 3) := by decide +kernel
theorem dX11_far_68 : decode cX11_far 68 = .ok (.goto (-29), 3) := by decide +kernel
theorem dX11_far_71 : decode cX11_far 71 = .ok (.iconst 0, 1) := by decide +kernel
theorem dX11_far_72 : decode cX11_far 72 = .ok (.istore 6, 2) := by decide +kernel
theorem dX11_far_74 : decode cX11_far 74 = .ok (.iload 6, 2) := by decide +kernel
theorem dX11_far_76 : decode cX11_far 76 = .ok (.aload_n 0, 1) := by decide +kernel
theorem dX11_far_77 : decode cX11_far 77 = .ok (.getfield 118, 3) := by decide +kernel
theorem dX11_far_80 : decode cX11_far 80 = .ok (.if_icmp .ge 109, 3) := by decide +kernel
theorem dX11_far_83 : decode cX11_far 83 = .ok (.iconst 0, 1) := by decide +kernel
theorem dX11_far_84 : decode cX11_far 84 = .ok (.istore 7, 2) := by decide +kernel
theorem dX11_far_86 : decode cX11_far 86 = .ok (.iload 7, 2) := by decide +kernel
theorem dX11_far_88 : decode cX11_far 88 = .ok (.aload_n 0, 1) := by decide +kernel
theorem dX11_far_89 : decode cX11_far 89 = .ok (.getfield 125, 3) := by decide +kernel
theorem dX11_far_92 : decode cX11_far 92 = .ok (.if_icmp .ge 91, 3) := by decide +kernel
theorem dX11_far_95 : decode cX11_far 95 = .ok (.aload_n 0, 1) := by decide +kernel
theorem dX11_far_96 : decode cX11_far 96 = .ok (.iload 7, 2) := by decide +kernel
theorem dX11_far_98 : decode cX11_far 98 = .ok (.iload_n 3, 1) := by decide +kernel
theorem dX11_far_99 : decode cX11_far 99 = .ok (.iload 4, 2) := by decide +kernel
theorem dX11_far_101 : decode cX11_far 101 = .ok (.invokevirtual 148, 3) := by decide +kernel
theorem dX11_far_104 : decode cX11_far 104 = .ok (.ifCond .eq 73, 3) := by decide +kernel
theorem dX11_far_107 : decode cX11_far 107 = .ok (.aload_n 0, 1) := by decide +kernel
theorem dX11_far_108 : decode cX11_far 108 = .ok (.getfield 16, 3) := by decide +kernel
theorem dX11_far_111 : decode cX11_far 111 = .ok (.iload 7, 2) := by decide +kernel
theorem dX11_far_113 : decode cX11_far 113 = .ok (.iaload, 1) := by decide +kernel
theorem dX11_far_114 : decode cX11_far 114 = .ok (.istore 8, 2) := by decide +kernel
theorem dX11_far_116 : decode cX11_far 116 = .ok (.aload_n 0, 1) := by decide +kernel
theorem dX11_far_117 : decode cX11_far 117 = .ok (.getfield 19, 3) := by decide +kernel
theorem dX11_far_120 : decode cX11_far 120 = .ok (.iload 7, 2) := by decide +kernel
theorem dX11_far_122 : decode cX11_far 122 = .ok (.iaload, 1) := by decide +kernel
theorem dX11_far_123 : decode cX11_far 123 = .ok (.istore 9, 2) := by decide +kernel
theorem dX11_far_125 : decode cX11_far 125 = .ok (.aload 5, 2) := by decide +kernel
theorem dX11_far_127 : decode cX11_far 127 = .ok (.iload 8, 2) := by decide +kernel
theorem dX11_far_129 : decode cX11_far 129 = .ok (.aload 5, 2) := by decide +kernel
theorem dX11_far_131 : decode cX11_far 131 = .ok (.iload 8, 2) := by decide +kernel
theorem dX11_far_133 : decode cX11_far 133 = .ok (.iaload, 1) := by decide +kernel
theorem dX11_far_134 : decode cX11_far 134 = .ok (.aload 5, 2) := by decide +kernel
theorem dX11_far_136 : decode cX11_far 136 = .ok (.iload 9, 2) := by decide +kernel
theorem dX11_far_138 : decode cX11_far 138 = .ok (.iaload, 1) := by decide +kernel
theorem dX11_far_139 : decode cX11_far 139 = .ok (.aload_n 0, 1) := by decide +kernel
theorem dX11_far_140 : decode cX11_far 140 = .ok (.getfield 22, 3) := by decide +kernel
theorem dX11_far_143 : decode cX11_far 143 = .ok (.iload 7, 2) := by decide +kernel
theorem dX11_far_145 : decode cX11_far 145 = .ok (.iaload, 1) := by decide +kernel
theorem dX11_far_146 : decode cX11_far 146 = .ok (.iadd, 1) := by decide +kernel
theorem dX11_far_147 : decode cX11_far 147 = .ok (.invokestatic 152, 3) := by decide +kernel
theorem dX11_far_150 : decode cX11_far 150 = .ok (.iastore, 1) := by decide +kernel
theorem dX11_far_151 : decode cX11_far 151 = .ok (.aload 5, 2) := by decide +kernel
theorem dX11_far_153 : decode cX11_far 153 = .ok (.iload 9, 2) := by decide +kernel
theorem dX11_far_155 : decode cX11_far 155 = .ok (.aload 5, 2) := by decide +kernel
theorem dX11_far_157 : decode cX11_far 157 = .ok (.iload 9, 2) := by decide +kernel
theorem dX11_far_159 : decode cX11_far 159 = .ok (.iaload, 1) := by decide +kernel
theorem dX11_far_160 : decode cX11_far 160 = .ok (.aload 5, 2) := by decide +kernel
theorem dX11_far_162 : decode cX11_far 162 = .ok (.iload 8, 2) := by decide +kernel
theorem dX11_far_164 : decode cX11_far 164 = .ok (.iaload, 1) := by decide +kernel
theorem dX11_far_165 : decode cX11_far 165 = .ok (.aload_n 0, 1) := by decide +kernel
theorem dX11_far_166 : decode cX11_far 166 = .ok (.getfield 22, 3) := by decide +kernel
theorem dX11_far_169 : decode cX11_far 169 = .ok (.iload 7, 2) := by decide +kernel
theorem dX11_far_171 : decode cX11_far 171 = .ok (.iaload, 1) := by decide +kernel
theorem dX11_far_172 : decode cX11_far 172 = .ok (.iadd, 1) := by decide +kernel
theorem dX11_far_173 : decode cX11_far 173 = .ok (.invokestatic 152, 3) := by decide +kernel
theorem dX11_far_176 : decode cX11_far 176 = .ok (.iastore, 1) := by decide +kernel
theorem dX11_far_177 : decode cX11_far 177 = .ok (.iinc 7 1, 3) := by decide +kernel
theorem dX11_far_180 : decode cX11_far 180 = .ok (.goto (-94), 3) := by decide +kernel
theorem dX11_far_183 : decode cX11_far 183 = .ok (.iinc 6 1, 3) := by decide +kernel
theorem dX11_far_186 : decode cX11_far 186 = .ok (.goto (-112), 3) := by decide +kernel
theorem dX11_far_189 : decode cX11_far 189 = .ok (.aload 5, 2) := by decide +kernel
theorem dX11_far_191 : decode cX11_far 191 = .ok (.iload_n 1, 1) := by decide +kernel
theorem dX11_far_192 : decode cX11_far 192 = .ok (.iaload, 1) := by decide +kernel
theorem dX11_far_193 : decode cX11_far 193 = .ok (.ldc 147, 2) := by decide +kernel
theorem dX11_far_195 : decode cX11_far 195 = .ok (.if_icmp .lt 12, 3) := by decide +kernel
theorem dX11_far_198 : decode cX11_far 198 = .ok (.aload_n 0, 1) := by decide +kernel
theorem dX11_far_199 : decode cX11_far 199 = .ok (.ldc 158, 2) := by decide +kernel
theorem dX11_far_201 : decode cX11_far 201 = .ok (.invokevirtual 132, 3) := by decide +kernel
theorem dX11_far_204 : decode cX11_far 204 = .ok (.goto 7, 3) := by decide +kernel
theorem dX11_far_207 : decode cX11_far 207 = .ok (.aload 5, 2) := by decide +kernel
theorem dX11_far_209 : decode cX11_far 209 = .ok (.iload_n 1, 1) := by decide +kernel
theorem dX11_far_210 : decode cX11_far 210 = .ok (.iaload, 1) := by decide +kernel
theorem dX11_far_211 : decode cX11_far 211 = .ok (.ireturn, 1) := by decide +kernel
theorem dX11_feed_0 : decode cX11_feed 0 = .ok (.iload_n 3, 1) := by decide +kernel
theorem dX11_feed_1 : decode cX11_feed 1 = .ok (.iconst 1, 1) := by decide +kernel
theorem dX11_feed_2 : decode cX11_feed 2 = .ok (.bipush 8, 2) := by decide +kernel
theorem dX11_feed_4 : decode cX11_feed 4 = .ok (.invokestatic 121, 3) := by decide +kernel
theorem dX11_feed_7 : decode cX11_feed 7 = .ok (.ifCond .ne 10, 3) := by decide +kernel
theorem dX11_feed_10 : decode cX11_feed 10 = .ok (.aload_n 0, 1) := by decide +kernel
theorem dX11_feed_11 : decode cX11_feed 11 = .ok (.ldc 131, 2) := by decide +kernel
theorem dX11_feed_13 : decode cX11_feed 13 = .ok (.invokevirtual 132, 3) := by decide +kernel
theorem dX11_feed_16 : decode cX11_feed 16 = .ok (.ireturn, 1) := by decide +kernel
theorem dX11_feed_17 : decode cX11_feed 17 = .ok (.aload_n 0, 1) := by decide +kernel
theorem dX11_feed_18 : decode cX11_feed 18 = .ok (.getfield 159, 3) := by decide +kernel
theorem dX11_feed_21 : decode cX11_feed 21 = .ok (.iload_n 3, 1) := by decide +kernel
theorem dX11_feed_22 : decode cX11_feed 22 = .ok (.iadd, 1) := by decide +kernel
theorem dX11_feed_23 : decode cX11_feed 23 = .ok (.sipush 200, 3) := by decide +kernel
theorem dX11_feed_26 : decode cX11_feed 26 = .ok (.if_icmp .le 10, 3) := by decide +kernel
theorem dX11_feed_29 : decode cX11_feed 29 = .ok (.aload_n 0, 1) := by decide +kernel
theorem dX11_feed_30 : decode cX11_feed 30 = .ok (.ldc 136, 2) := by decide +kernel
theorem dX11_feed_32 : decode cX11_feed 32 = .ok (.invokevirtual 132, 3) := by decide +kernel
theorem dX11_feed_35 : decode cX11_feed 35 = .ok (.ireturn, 1) := by decide +kernel
theorem dX11_feed_36 : decode cX11_feed 36 = .ok (.iconst 0, 1) := by decide +kernel
theorem dX11_feed_37 : decode cX11_feed 37 = .ok (.istore 4, 2) := by decide +kernel
theorem dX11_feed_39 : decode cX11_feed 39 = .ok (.iload 4, 2) := by decide +kernel
theorem dX11_feed_41 : decode cX11_feed 41 = .ok (.iload_n 3, 1) := by decide +kernel
theorem dX11_feed_42 : decode cX11_feed 42 = .ok (.if_icmp .ge 40, 3) := by decide +kernel
theorem dX11_feed_45 : decode cX11_feed 45 = .ok (.aload_n 0, 1) := by decide +kernel
theorem dX11_feed_46 : decode cX11_feed 46 = .ok (.getfield 50, 3) := by decide +kernel
theorem dX11_feed_49 : decode cX11_feed 49 = .ok (.aload_n 0, 1) := by decide +kernel
theorem dX11_feed_50 : decode cX11_feed 50 = .ok (.getfield 159, 3) := by decide +kernel
theorem dX11_feed_53 : decode cX11_feed 53 = .ok (.lload_n 1, 1) := by decide +kernel
theorem dX11_feed_54 : decode cX11_feed 54 = .ok (.bipush 8, 2) := by decide +kernel
theorem dX11_feed_56 : decode cX11_feed 56 = .ok (.iload 4, 2) := by decide +kernel
theorem dX11_feed_58 : decode cX11_feed 58 = .ok (.imul, 1) := by decide +kernel
theorem dX11_feed_59 : decode cX11_feed 59 = .ok (.lshr, 1) := by decide +kernel
theorem dX11_feed_60 : decode cX11_feed 60 = .ok (.ldc2_w 162, 3) := by decide +kernel
theorem dX11_feed_63 : decode cX11_feed 63 = .ok (.land, 1) := by decide +kernel
theorem dX11_feed_64 : decode cX11_feed 64 = .ok (.l2i, 1) := by decide +kernel
theorem dX11_feed_65 : decode cX11_feed 65 = .ok (.iastore, 1) := by decide +kernel
theorem dX11_feed_66 : decode cX11_feed 66 = .ok (.aload_n 0, 1) := by decide +kernel
theorem dX11_feed_67 : decode cX11_feed 67 = .ok (.dup, 1) := by decide +kernel
theorem dX11_feed_68 : decode cX11_feed 68 = .ok (.getfield 159, 3) := by decide +kernel
theorem dX11_feed_71 : decode cX11_feed 71 = .ok (.iconst 1, 1) := by decide +kernel
theorem dX11_feed_72 : decode cX11_feed 72 = .ok (.iadd, 1) := by decide +kernel
theorem dX11_feed_73 : decode cX11_feed 73 = .ok (.putfield 159, 3) := by decide +kernel
theorem dX11_feed_76 : decode cX11_feed 76 = .ok (.iinc 4 1, 3) := by decide +kernel
theorem dX11_feed_79 : decode cX11_feed 79 = .ok (.goto (-40), 3) := by decide +kernel
theorem dX11_feed_82 : decode cX11_feed 82 = .ok (.aload_n 0, 1) := by decide +kernel
theorem dX11_feed_83 : decode cX11_feed 83 = .ok (.getfield 159, 3) := by decide +kernel
theorem dX11_feed_86 : decode cX11_feed 86 = .ok (.ireturn, 1) := by decide +kernel
theorem dX11_byteAt_0 : decode cX11_byteAt 0 = .ok (.iload_n 1, 1) := by decide +kernel
theorem dX11_byteAt_1 : decode cX11_byteAt 1 = .ok (.aload_n 0, 1) := by decide +kernel
theorem dX11_byteAt_2 : decode cX11_byteAt 2 = .ok (.getfield 159, 3) := by decide +kernel
theorem dX11_byteAt_5 : decode cX11_byteAt 5 = .ok (.if_icmp .ge 12, 3) := by decide +kernel
theorem dX11_byteAt_8 : decode cX11_byteAt 8 = .ok (.aload_n 0, 1) := by decide +kernel
theorem dX11_byteAt_9 : decode cX11_byteAt 9 = .ok (.getfield 50, 3) := by decide +kernel
theorem dX11_byteAt_12 : decode cX11_byteAt 12 = .ok (.iload_n 1, 1) := by decide +kernel
theorem dX11_byteAt_13 : decode cX11_byteAt 13 = .ok (.iaload, 1) := by decide +kernel
theorem dX11_byteAt_14 : decode cX11_byteAt 14 = .ok (.goto 4, 3) := by decide +kernel
theorem dX11_byteAt_17 : decode cX11_byteAt 17 = .ok (.iconst (-1), 1) := by decide +kernel
theorem dX11_byteAt_18 : decode cX11_byteAt 18 = .ok (.ireturn, 1) := by decide +kernel
theorem dX11_kindBy_0 : decode cX11_kindBy 0 = .ok (.iload_n 0, 1) := by decide +kernel
theorem dX11_kindBy_1 : decode cX11_kindBy 1 = .ok (.bipush 112, 2) := by decide +kernel
theorem dX11_kindBy_3 : decode cX11_kindBy 3 = .ok (.if_icmp .ne 7, 3) := by decide +kernel
theorem dX11_kindBy_6 : decode cX11_kindBy 6 = .ok (.iconst 0, 1) := by decide +kernel
theorem dX11_kindBy_7 : decode cX11_kindBy 7 = .ok (.goto 34, 3) := by decide +kernel
theorem dX11_kindBy_10 : decode cX11_kindBy 10 = .ok (.iload_n 0, 1) := by decide +kernel
theorem dX11_kindBy_11 : decode cX11_kindBy 11 = .ok (.bipush 115, 2) := by decide +kernel
theorem dX11_kindBy_13 : decode cX11_kindBy 13 = .ok (.if_icmp .ne 7, 3) := by decide +kernel
theorem dX11_kindBy_16 : decode cX11_kindBy 16 = .ok (.iconst 1, 1) := by decide +kernel
theorem dX11_kindBy_17 : decode cX11_kindBy 17 = .ok (.goto 24, 3) := by decide +kernel
theorem dX11_kindBy_20 : decode cX11_kindBy 20 = .ok (.iload_n 0, 1) := by decide +kernel
theorem dX11_kindBy_21 : decode cX11_kindBy 21 = .ok (.bipush 116, 2) := by decide +kernel
theorem dX11_kindBy_23 : decode cX11_kindBy 23 = .ok (.if_icmp .ne 7, 3) := by decide +kernel
theorem dX11_kindBy_26 : decode cX11_kindBy 26 = .ok (.iconst 2, 1) := by decide +kernel
theorem dX11_kindBy_27 : decode cX11_kindBy 27 = .ok (.goto 14, 3) := by decide +kernel
theorem dX11_kindBy_30 : decode cX11_kindBy 30 = .ok (.iload_n 0, 1) := by decide +kernel
theorem dX11_kindBy_31 : decode cX11_kindBy 31 = .ok (.bipush 101, 2) := by decide +kernel
theorem dX11_kindBy_33 : decode cX11_kindBy 33 = .ok (.if_icmp .ne 7, 3) := by decide +kernel
theorem dX11_kindBy_36 : decode cX11_kindBy 36 = .ok (.iconst 3, 1) := by decide +kernel
theorem dX11_kindBy_37 : decode cX11_kindBy 37 = .ok (.goto 4, 3) := by decide +kernel
theorem dX11_kindBy_40 : decode cX11_kindBy 40 = .ok (.iconst (-1), 1) := by decide +kernel
theorem dX11_kindBy_41 : decode cX11_kindBy 41 = .ok (.ireturn, 1) := by decide +kernel
theorem dX11_readsPiece_0 : decode cX11_readsPiece 0 = .ok (.aload_n 0, 1) := by decide +kernel
theorem dX11_readsPiece_1 : decode cX11_readsPiece 1 = .ok (.getfield 164, 3) := by decide +kernel
theorem dX11_readsPiece_4 : decode cX11_readsPiece 4 = .ok (.bipush 12, 2) := by decide +kernel
theorem dX11_readsPiece_6 : decode cX11_readsPiece 6 = .ok (.if_icmp .eq 27, 3) := by decide +kernel
theorem dX11_readsPiece_9 : decode cX11_readsPiece 9 = .ok (.aload_n 0, 1) := by decide +kernel
theorem dX11_readsPiece_10 : decode cX11_readsPiece 10 = .ok (.aload_n 0, 1) := by decide +kernel
theorem dX11_readsPiece_11 : decode cX11_readsPiece 11 = .ok (.getfield 167, 3) := by decide +kernel
theorem dX11_readsPiece_14 : decode cX11_readsPiece 14 = .ok (.invokevirtual 170, 3) := by decide +kernel
theorem dX11_readsPiece_17 : decode cX11_readsPiece 17 = .ok (.bipush 48, 2) := by decide +kernel
theorem dX11_readsPiece_19 : decode cX11_readsPiece 19 = .ok (.isub, 1) := by decide +kernel
theorem dX11_readsPiece_20 : decode cX11_readsPiece 20 = .ok (.iconst 0, 1) := by decide +kernel
theorem dX11_readsPiece_21 : decode cX11_readsPiece 21 = .ok (.aload_n 0, 1) := by decide +kernel
theorem dX11_readsPiece_22 : decode cX11_readsPiece 22 = .ok (.getfield 118, 3) := by decide +kernel
theorem dX11_readsPiece_25 : decode cX11_readsPiece 25 = .ok (.iconst 1, 1) := by decide +kernel
theorem dX11_readsPiece_26 : decode cX11_readsPiece 26 = .ok (.isub, 1) := by decide +kernel
theorem dX11_readsPiece_27 : decode cX11_readsPiece 27 = .ok (.invokestatic 121, 3) := by decide +kernel
theorem dX11_readsPiece_30 : decode cX11_readsPiece 30 = .ok (.ifCond .ne 5, 3) := by decide +kernel
theorem dX11_readsPiece_33 : decode cX11_readsPiece 33 = .ok (.iconst 0, 1) := by decide +kernel
theorem dX11_readsPiece_34 : decode cX11_readsPiece 34 = .ok (.ireturn, 1) := by decide +kernel
theorem dX11_readsPiece_35 : decode cX11_readsPiece 35 = .ok (.aload_n 0, 1) := by decide +kernel
theorem dX11_readsPiece_36 : decode cX11_readsPiece 36 = .ok (.getfield 89, 3) := by decide +kernel
theorem dX11_readsPiece_39 : decode cX11_readsPiece 39 = .ok (.aload_n 0, 1) := by decide +kernel
theorem dX11_readsPiece_40 : decode cX11_readsPiece 40 = .ok (.getfield 164, 3) := by decide +kernel
theorem dX11_readsPiece_43 : decode cX11_readsPiece 43 = .ok (.aload_n 0, 1) := by decide +kernel
theorem dX11_readsPiece_44 : decode cX11_readsPiece 44 = .ok (.aload_n 0, 1) := by decide +kernel
theorem dX11_readsPiece_45 : decode cX11_readsPiece 45 = .ok (.getfield 167, 3) := by decide +kernel
theorem dX11_readsPiece_48 : decode cX11_readsPiece 48 = .ok (.invokevirtual 170, 3) := by decide +kernel
theorem dX11_readsPiece_51 : decode cX11_readsPiece 51 = .ok (.bipush 48, 2) := by decide +kernel
theorem dX11_readsPiece_53 : decode cX11_readsPiece 53 = .ok (.isub, 1) := by decide +kernel
theorem dX11_readsPiece_54 : decode cX11_readsPiece 54 = .ok (.iastore, 1) := by decide +kernel
theorem dX11_readsPiece_55 : decode cX11_readsPiece 55 = .ok (.aload_n 0, 1) := by decide +kernel
theorem dX11_readsPiece_56 : decode cX11_readsPiece 56 = .ok (.dup, 1) := by decide +kernel
theorem dX11_readsPiece_57 : decode cX11_readsPiece 57 = .ok (.getfield 167, 3) := by decide +kernel
theorem dX11_readsPiece_60 : decode cX11_readsPiece 60 = .ok (.iconst 1, 1) := by decide +kernel
theorem dX11_readsPiece_61 : decode cX11_readsPiece 61 = .ok (.iadd, 1) := by decide +kernel
theorem dX11_readsPiece_62 : decode cX11_readsPiece 62 = .ok (.putfield 167, 3) := by decide +kernel
theorem dX11_readsPiece_65 : decode cX11_readsPiece 65 = .ok (.aload_n 0, 1) := by decide +kernel
theorem dX11_readsPiece_66 : decode cX11_readsPiece 66 = .ok (.getfield 86, 3) := by decide +kernel
theorem dX11_readsPiece_69 : decode cX11_readsPiece 69 = .ok (.aload_n 0, 1) := by decide +kernel
theorem dX11_readsPiece_70 : decode cX11_readsPiece 70 = .ok (.getfield 164, 3) := by decide +kernel
theorem dX11_readsPiece_73 : decode cX11_readsPiece 73 = .ok (.aload_n 0, 1) := by decide +kernel
theorem dX11_readsPiece_74 : decode cX11_readsPiece 74 = .ok (.aload_n 0, 1) := by decide +kernel
theorem dX11_readsPiece_75 : decode cX11_readsPiece 75 = .ok (.getfield 167, 3) := by decide +kernel
theorem dX11_readsPiece_78 : decode cX11_readsPiece 78 = .ok (.invokevirtual 170, 3) := by decide +kernel
theorem dX11_readsPiece_81 : decode cX11_readsPiece 81 = .ok (.invokestatic 173, 3) := by decide +kernel
theorem dX11_readsPiece_84 : decode cX11_readsPiece 84 = .ok (.iastore, 1) := by decide +kernel
theorem dX11_readsPiece_85 : decode cX11_readsPiece 85 = .ok (.aload_n 0, 1) := by decide +kernel
theorem dX11_readsPiece_86 : decode cX11_readsPiece 86 = .ok (.getfield 86, 3) := by decide +kernel
theorem dX11_readsPiece_89 : decode cX11_readsPiece 89 = .ok (.aload_n 0, 1) := by decide +kernel
theorem dX11_readsPiece_90 : decode cX11_readsPiece 90 = .ok (.getfield 164, 3) := by decide +kernel
theorem dX11_readsPiece_93 : decode cX11_readsPiece 93 = .ok (.iaload, 1) := by decide +kernel
theorem dX11_readsPiece_94 : decode cX11_readsPiece 94 = .ok (.ifCond .ge 5, 3) := by decide +kernel
theorem dX11_readsPiece_97 : decode cX11_readsPiece 97 = .ok (.iconst 0, 1) := by decide +kernel
theorem dX11_readsPiece_98 : decode cX11_readsPiece 98 = .ok (.ireturn, 1) := by decide +kernel
theorem dX11_readsPiece_99 : decode cX11_readsPiece 99 = .ok (.aload_n 0, 1) := by decide +kernel
theorem dX11_readsPiece_100 : decode cX11_readsPiece 100 = .ok (.dup, 1) := by decide +kernel
theorem dX11_readsPiece_101 : decode cX11_readsPiece 101 = .ok (.getfield 167, 3) := by decide +kernel
theorem dX11_readsPiece_104 : decode cX11_readsPiece 104 = .ok (.iconst 1, 1) := by decide +kernel
theorem dX11_readsPiece_105 : decode cX11_readsPiece 105 = .ok (.iadd, 1) := by decide +kernel
theorem dX11_readsPiece_106 : decode cX11_readsPiece 106 = .ok (.putfield 167, 3) := by decide +kernel
theorem dX11_readsPiece_109 : decode cX11_readsPiece 109 = .ok (.aload_n 0, 1) := by decide +kernel
theorem dX11_readsPiece_110 : decode cX11_readsPiece 110 = .ok (.aload_n 0, 1) := by decide +kernel
theorem dX11_readsPiece_111 : decode cX11_readsPiece 111 = .ok (.getfield 167, 3) := by decide +kernel
theorem dX11_readsPiece_114 : decode cX11_readsPiece 114 = .ok (.invokevirtual 170, 3) := by decide +kernel
theorem dX11_readsPiece_117 : decode cX11_readsPiece 117 = .ok (.bipush 49, 2) := by decide +kernel
theorem dX11_readsPiece_119 : decode cX11_readsPiece 119 = .ok (.bipush 57, 2) := by decide +kernel
theorem dX11_readsPiece_121 : decode cX11_readsPiece 121 = .ok (.invokestatic 121, 3) := by decide +kernel
theorem dX11_readsPiece_124 : decode cX11_readsPiece 124 = .ok (.ifCond .ne 5, 3) := by decide +kernel
theorem dX11_readsPiece_127 : decode cX11_readsPiece 127 = .ok (.iconst 0, 1) := by decide +kernel
theorem dX11_readsPiece_128 : decode cX11_readsPiece 128 = .ok (.ireturn, 1) := by decide +kernel
theorem dX11_readsPiece_129 : decode cX11_readsPiece 129 = .ok (.aload_n 0, 1) := by decide +kernel
theorem dX11_readsPiece_130 : decode cX11_readsPiece 130 = .ok (.getfield 92, 3) := by decide +kernel
theorem dX11_readsPiece_133 : decode cX11_readsPiece 133 = .ok (.aload_n 0, 1) := by decide +kernel
theorem dX11_readsPiece_134 : decode cX11_readsPiece 134 = .ok (.getfield 164, 3) := by decide +kernel
theorem dX11_readsPiece_137 : decode cX11_readsPiece 137 = .ok (.aload_n 0, 1) := by decide +kernel
theorem dX11_readsPiece_138 : decode cX11_readsPiece 138 = .ok (.aload_n 0, 1) := by decide +kernel
theorem dX11_readsPiece_139 : decode cX11_readsPiece 139 = .ok (.getfield 167, 3) := by decide +kernel
theorem dX11_readsPiece_142 : decode cX11_readsPiece 142 = .ok (.invokevirtual 170, 3) := by decide +kernel
theorem dX11_readsPiece_145 : decode cX11_readsPiece 145 = .ok (.bipush 48, 2) := by decide +kernel
theorem dX11_readsPiece_147 : decode cX11_readsPiece 147 = .ok (.isub, 1) := by decide +kernel
theorem dX11_readsPiece_148 : decode cX11_readsPiece 148 = .ok (.iastore, 1) := by decide +kernel
theorem dX11_readsPiece_149 : decode cX11_readsPiece 149 = .ok (.aload_n 0, 1) := by decide +kernel
theorem dX11_readsPiece_150 : decode cX11_readsPiece 150 = .ok (.dup, 1) := by decide +kernel
theorem dX11_readsPiece_151 : decode cX11_readsPiece 151 = .ok (.getfield 167, 3) := by decide +kernel
theorem dX11_readsPiece_154 : decode cX11_readsPiece 154 = .ok (.iconst 1, 1) := by decide +kernel
theorem dX11_readsPiece_155 : decode cX11_readsPiece 155 = .ok (.iadd, 1) := by decide +kernel
theorem dX11_readsPiece_156 : decode cX11_readsPiece 156 = .ok (.putfield 167, 3) := by decide +kernel
theorem dX11_readsPiece_159 : decode cX11_readsPiece 159 = .ok (.aload_n 0, 1) := by decide +kernel
theorem dX11_readsPiece_160 : decode cX11_readsPiece 160 = .ok (.getfield 95, 3) := by decide +kernel
theorem dX11_readsPiece_163 : decode cX11_readsPiece 163 = .ok (.aload_n 0, 1) := by decide +kernel
theorem dX11_readsPiece_164 : decode cX11_readsPiece 164 = .ok (.getfield 164, 3) := by decide +kernel
theorem dX11_readsPiece_167 : decode cX11_readsPiece 167 = .ok (.iconst 0, 1) := by decide +kernel
theorem dX11_readsPiece_168 : decode cX11_readsPiece 168 = .ok (.iastore, 1) := by decide +kernel
theorem dX11_readsPiece_169 : decode cX11_readsPiece 169 = .ok (.bipush 97, 2) := by decide +kernel
theorem dX11_readsPiece_171 : decode cX11_readsPiece 171 = .ok (.istore_n 1, 1) := by decide +kernel
theorem dX11_readsPiece_172 : decode cX11_readsPiece 172 = .ok (.aload_n 0, 1) := by decide +kernel
theorem dX11_readsPiece_173 : decode cX11_readsPiece 173 = .ok (.aload_n 0, 1) := by decide +kernel
theorem dX11_readsPiece_174 : decode cX11_readsPiece 174 = .ok (.getfield 167, 3) := by decide +kernel
theorem dX11_readsPiece_177 : decode cX11_readsPiece 177 = .ok (.invokevirtual 170, 3) := by decide +kernel
theorem dX11_readsPiece_180 : decode cX11_readsPiece 180 = .ok (.iload_n 1, 1) := by decide +kernel
theorem dX11_readsPiece_181 : decode cX11_readsPiece 181 = .ok (.bipush 108, 2) := by decide +kernel
theorem dX11_readsPiece_183 : decode cX11_readsPiece 183 = .ok (.invokestatic 121, 3) := by decide +kernel
theorem dX11_readsPiece_186 : decode cX11_readsPiece 186 = .ok (.ifCond .eq 52, 3) := by decide +kernel
theorem dX11_readsPiece_189 : decode cX11_readsPiece 189 = .ok (.aload_n 0, 1) := by decide +kernel
theorem dX11_readsPiece_190 : decode cX11_readsPiece 190 = .ok (.getfield 95, 3) := by decide +kernel
theorem dX11_readsPiece_193 : decode cX11_readsPiece 193 = .ok (.aload_n 0, 1) := by decide +kernel
theorem dX11_readsPiece_194 : decode cX11_readsPiece 194 = .ok (.getfield 164, 3) := by decide +kernel
theorem dX11_readsPiece_197 : decode cX11_readsPiece 197 = .ok (.dup2, 1) := by decide +kernel
theorem dX11_readsPiece_198 : decode cX11_readsPiece 198 = .ok (.iaload, 1) := by decide +kernel
theorem dX11_readsPiece_199 : decode cX11_readsPiece 199 = .ok (.iconst 1, 1) := by decide +kernel
theorem dX11_readsPiece_200 : decode cX11_readsPiece 200 = .ok (.aload_n 0, 1) := by decide +kernel
theorem dX11_readsPiece_201 : decode cX11_readsPiece 201 = .ok (.aload_n 0, 1) := by decide +kernel
theorem dX11_readsPiece_202 : decode cX11_readsPiece 202 = .ok (.getfield 167, 3) := by decide +kernel
theorem dX11_readsPiece_205 : decode cX11_readsPiece 205 = .ok (.invokevirtual 170, 3) := by decide +kernel
theorem dX11_readsPiece_208 : decode cX11_readsPiece 208 = .ok (.bipush 97, 2) := by decide +kernel
theorem dX11_readsPiece_210 : decode cX11_readsPiece 210 = .ok (.isub, 1) := by decide +kernel
theorem dX11_readsPiece_211 : decode cX11_readsPiece 211 = .ok (.ishl, 1) := by decide +kernel
theorem dX11_readsPiece_212 : decode cX11_readsPiece 212 = .ok (.ior, 1) := by decide +kernel
theorem dX11_readsPiece_213 : decode cX11_readsPiece 213 = .ok (.iastore, 1) := by decide +kernel
theorem dX11_readsPiece_214 : decode cX11_readsPiece 214 = .ok (.aload_n 0, 1) := by decide +kernel
theorem dX11_readsPiece_215 : decode cX11_readsPiece 215 = .ok (.aload_n 0, 1) := by decide +kernel
theorem dX11_readsPiece_216 : decode cX11_readsPiece 216 = .ok (.getfield 167, 3) := by decide +kernel
theorem dX11_readsPiece_219 : decode cX11_readsPiece 219 = .ok (.invokevirtual 170, 3) := by decide +kernel
theorem dX11_readsPiece_222 : decode cX11_readsPiece 222 = .ok (.iconst 1, 1) := by decide +kernel
theorem dX11_readsPiece_223 : decode cX11_readsPiece 223 = .ok (.iadd, 1) := by decide +kernel
theorem dX11_readsPiece_224 : decode cX11_readsPiece 224 = .ok (.istore_n 1, 1) := by decide +kernel
theorem dX11_readsPiece_225 : decode cX11_readsPiece 225 = .ok (.aload_n 0, 1) := by decide +kernel
theorem dX11_readsPiece_226 : decode cX11_readsPiece 226 = .ok (.dup, 1) := by decide +kernel
theorem dX11_readsPiece_227 : decode cX11_readsPiece 227 = .ok (.getfield 167, 3) := by decide +kernel
theorem dX11_readsPiece_230 : decode cX11_readsPiece 230 = .ok (.iconst 1, 1) := by decide +kernel
theorem dX11_readsPiece_231 : decode cX11_readsPiece 231 = .ok (.iadd, 1) := by decide +kernel
theorem dX11_readsPiece_232 : decode cX11_readsPiece 232 = .ok (.putfield 167, 3) := by decide +kernel
theorem dX11_readsPiece_235 : decode cX11_readsPiece 235 = .ok (.goto (-63), 3) := by decide +kernel
theorem dX11_readsPiece_238 : decode cX11_readsPiece 238 = .ok (.aload_n 0, 1) := by decide +kernel
theorem dX11_readsPiece_239 : decode cX11_readsPiece 239 = .ok (.getfield 98, 3) := by decide +kernel
theorem dX11_readsPiece_242 : decode cX11_readsPiece 242 = .ok (.aload_n 0, 1) := by decide +kernel
theorem dX11_readsPiece_243 : decode cX11_readsPiece 243 = .ok (.getfield 164, 3) := by decide +kernel
theorem dX11_readsPiece_246 : decode cX11_readsPiece 246 = .ok (.bipush 127, 2) := by decide +kernel
theorem dX11_readsPiece_248 : decode cX11_readsPiece 248 = .ok (.iastore, 1) := by decide +kernel
theorem dX11_readsPiece_249 : decode cX11_readsPiece 249 = .ok (.aload_n 0, 1) := by decide +kernel
theorem dX11_readsPiece_250 : decode cX11_readsPiece 250 = .ok (.getfield 86, 3) := by decide +kernel
theorem dX11_readsPiece_253 : decode cX11_readsPiece 253 = .ok (.aload_n 0, 1) := by decide +kernel
theorem dX11_readsPiece_254 : decode cX11_readsPiece 254 = .ok (.getfield 164, 3) := by decide +kernel
theorem dX11_readsPiece_257 : decode cX11_readsPiece 257 = .ok (.iaload, 1) := by decide +kernel
theorem dX11_readsPiece_258 : decode cX11_readsPiece 258 = .ok (.iconst 1, 1) := by decide +kernel
theorem dX11_readsPiece_259 : decode cX11_readsPiece 259 = .ok (.if_icmp .ne 25, 3) := by decide +kernel
theorem dX11_readsPiece_262 : decode cX11_readsPiece 262 = .ok (.aload_n 0, 1) := by decide +kernel
theorem dX11_readsPiece_263 : decode cX11_readsPiece 263 = .ok (.aload_n 0, 1) := by decide +kernel
theorem dX11_readsPiece_264 : decode cX11_readsPiece 264 = .ok (.getfield 167, 3) := by decide +kernel
theorem dX11_readsPiece_267 : decode cX11_readsPiece 267 = .ok (.invokevirtual 170, 3) := by decide +kernel
theorem dX11_readsPiece_270 : decode cX11_readsPiece 270 = .ok (.bipush 64, 2) := by decide +kernel
theorem dX11_readsPiece_272 : decode cX11_readsPiece 272 = .ok (.if_icmp .ne 12, 3) := by decide +kernel
theorem dX11_readsPiece_275 : decode cX11_readsPiece 275 = .ok (.aload_n 0, 1) := by decide +kernel
theorem dX11_readsPiece_276 : decode cX11_readsPiece 276 = .ok (.invokevirtual 176, 3) := by decide +kernel
theorem dX11_readsPiece_279 : decode cX11_readsPiece 279 = .ok (.ifCond .ne 5, 3) := by decide +kernel
theorem dX11_readsPiece_282 : decode cX11_readsPiece 282 = .ok (.iconst 0, 1) := by decide +kernel
theorem dX11_readsPiece_283 : decode cX11_readsPiece 283 = .ok (.ireturn, 1) := by decide +kernel
theorem dX11_readsPiece_284 : decode cX11_readsPiece 284 = .ok (.aload_n 0, 1) := by decide +kernel
theorem dX11_readsPiece_285 : decode cX11_readsPiece 285 = .ok (.aload_n 0, 1) := by decide +kernel
theorem dX11_readsPiece_286 : decode cX11_readsPiece 286 = .ok (.getfield 167, 3) := by decide +kernel
theorem dX11_readsPiece_289 : decode cX11_readsPiece 289 = .ok (.invokevirtual 170, 3) := by decide +kernel
theorem dX11_readsPiece_292 : decode cX11_readsPiece 292 = .ok (.bipush 59, 2) := by decide +kernel
theorem dX11_readsPiece_294 : decode cX11_readsPiece 294 = .ok (.if_icmp .eq 5, 3) := by decide +kernel
theorem dX11_readsPiece_297 : decode cX11_readsPiece 297 = .ok (.iconst 0, 1) := by decide +kernel
theorem dX11_readsPiece_298 : decode cX11_readsPiece 298 = .ok (.ireturn, 1) := by decide +kernel
theorem dX11_readsPiece_299 : decode cX11_readsPiece 299 = .ok (.aload_n 0, 1) := by decide +kernel
theorem dX11_readsPiece_300 : decode cX11_readsPiece 300 = .ok (.dup, 1) := by decide +kernel
theorem dX11_readsPiece_301 : decode cX11_readsPiece 301 = .ok (.getfield 167, 3) := by decide +kernel
theorem dX11_readsPiece_304 : decode cX11_readsPiece 304 = .ok (.iconst 1, 1) := by decide +kernel
theorem dX11_readsPiece_305 : decode cX11_readsPiece 305 = .ok (.iadd, 1) := by decide +kernel
theorem dX11_readsPiece_306 : decode cX11_readsPiece 306 = .ok (.putfield 167, 3) := by decide +kernel
theorem dX11_readsPiece_309 : decode cX11_readsPiece 309 = .ok (.aload_n 0, 1) := by decide +kernel
theorem dX11_readsPiece_310 : decode cX11_readsPiece 310 = .ok (.dup, 1) := by decide +kernel
theorem dX11_readsPiece_311 : decode cX11_readsPiece 311 = .ok (.getfield 164, 3) := by decide +kernel
theorem dX11_readsPiece_314 : decode cX11_readsPiece 314 = .ok (.iconst 1, 1) := by decide +kernel
theorem dX11_readsPiece_315 : decode cX11_readsPiece 315 = .ok (.iadd, 1) := by decide +kernel
theorem dX11_readsPiece_316 : decode cX11_readsPiece 316 = .ok (.putfield 164, 3) := by decide +kernel
theorem dX11_readsPiece_319 : decode cX11_readsPiece 319 = .ok (.iconst 1, 1) := by decide +kernel
theorem dX11_readsPiece_320 : decode cX11_readsPiece 320 = .ok (.ireturn, 1) := by decide +kernel
theorem dX11_readsDays_0 : decode cX11_readsDays 0 = .ok (.aload_n 0, 1) := by decide +kernel
theorem dX11_readsDays_1 : decode cX11_readsDays 1 = .ok (.dup, 1) := by decide +kernel
theorem dX11_readsDays_2 : decode cX11_readsDays 2 = .ok (.getfield 167, 3) := by decide +kernel
theorem dX11_readsDays_5 : decode cX11_readsDays 5 = .ok (.iconst 1, 1) := by decide +kernel
theorem dX11_readsDays_6 : decode cX11_readsDays 6 = .ok (.iadd, 1) := by decide +kernel
theorem dX11_readsDays_7 : decode cX11_readsDays 7 = .ok (.putfield 167, 3) := by decide +kernel
theorem dX11_readsDays_10 : decode cX11_readsDays 10 = .ok (.iconst 0, 1) := by decide +kernel
theorem dX11_readsDays_11 : decode cX11_readsDays 11 = .ok (.istore_n 1, 1) := by decide +kernel
theorem dX11_readsDays_12 : decode cX11_readsDays 12 = .ok (.bipush 48, 2) := by decide +kernel
theorem dX11_readsDays_14 : decode cX11_readsDays 14 = .ok (.istore_n 2, 1) := by decide +kernel
theorem dX11_readsDays_15 : decode cX11_readsDays 15 = .ok (.aload_n 0, 1) := by decide +kernel
theorem dX11_readsDays_16 : decode cX11_readsDays 16 = .ok (.aload_n 0, 1) := by decide +kernel
theorem dX11_readsDays_17 : decode cX11_readsDays 17 = .ok (.getfield 167, 3) := by decide +kernel
theorem dX11_readsDays_20 : decode cX11_readsDays 20 = .ok (.invokevirtual 170, 3) := by decide +kernel
theorem dX11_readsDays_23 : decode cX11_readsDays 23 = .ok (.iload_n 2, 1) := by decide +kernel
theorem dX11_readsDays_24 : decode cX11_readsDays 24 = .ok (.bipush 54, 2) := by decide +kernel
theorem dX11_readsDays_26 : decode cX11_readsDays 26 = .ok (.invokestatic 121, 3) := by decide +kernel
theorem dX11_readsDays_29 : decode cX11_readsDays 29 = .ok (.ifCond .eq 43, 3) := by decide +kernel
theorem dX11_readsDays_32 : decode cX11_readsDays 32 = .ok (.iload_n 1, 1) := by decide +kernel
theorem dX11_readsDays_33 : decode cX11_readsDays 33 = .ok (.iconst 1, 1) := by decide +kernel
theorem dX11_readsDays_34 : decode cX11_readsDays 34 = .ok (.aload_n 0, 1) := by decide +kernel
theorem dX11_readsDays_35 : decode cX11_readsDays 35 = .ok (.aload_n 0, 1) := by decide +kernel
theorem dX11_readsDays_36 : decode cX11_readsDays 36 = .ok (.getfield 167, 3) := by decide +kernel
theorem dX11_readsDays_39 : decode cX11_readsDays 39 = .ok (.invokevirtual 170, 3) := by decide +kernel
theorem dX11_readsDays_42 : decode cX11_readsDays 42 = .ok (.bipush 48, 2) := by decide +kernel
theorem dX11_readsDays_44 : decode cX11_readsDays 44 = .ok (.isub, 1) := by decide +kernel
theorem dX11_readsDays_45 : decode cX11_readsDays 45 = .ok (.ishl, 1) := by decide +kernel
theorem dX11_readsDays_46 : decode cX11_readsDays 46 = .ok (.ior, 1) := by decide +kernel
theorem dX11_readsDays_47 : decode cX11_readsDays 47 = .ok (.istore_n 1, 1) := by decide +kernel
theorem dX11_readsDays_48 : decode cX11_readsDays 48 = .ok (.aload_n 0, 1) := by decide +kernel
theorem dX11_readsDays_49 : decode cX11_readsDays 49 = .ok (.aload_n 0, 1) := by decide +kernel
theorem dX11_readsDays_50 : decode cX11_readsDays 50 = .ok (.getfield 167, 3) := by decide +kernel
theorem dX11_readsDays_53 : decode cX11_readsDays 53 = .ok (.invokevirtual 170, 3) := by decide +kernel
theorem dX11_readsDays_56 : decode cX11_readsDays 56 = .ok (.iconst 1, 1) := by decide +kernel
theorem dX11_readsDays_57 : decode cX11_readsDays 57 = .ok (.iadd, 1) := by decide +kernel
theorem dX11_readsDays_58 : decode cX11_readsDays 58 = .ok (.istore_n 2, 1) := by decide +kernel
theorem dX11_readsDays_59 : decode cX11_readsDays 59 = .ok (.aload_n 0, 1) := by decide +kernel
theorem dX11_readsDays_60 : decode cX11_readsDays 60 = .ok (.dup, 1) := by decide +kernel
theorem dX11_readsDays_61 : decode cX11_readsDays 61 = .ok (.getfield 167, 3) := by decide +kernel
theorem dX11_readsDays_64 : decode cX11_readsDays 64 = .ok (.iconst 1, 1) := by decide +kernel
theorem dX11_readsDays_65 : decode cX11_readsDays 65 = .ok (.iadd, 1) := by decide +kernel
theorem dX11_readsDays_66 : decode cX11_readsDays 66 = .ok (.putfield 167, 3) := by decide +kernel
theorem dX11_readsDays_69 : decode cX11_readsDays 69 = .ok (.goto (-54), 3) := by decide +kernel
theorem dX11_readsDays_72 : decode cX11_readsDays 72 = .ok (.aload_n 0, 1) := by decide +kernel
theorem dX11_readsDays_73 : decode cX11_readsDays 73 = .ok (.getfield 98, 3) := by decide +kernel
theorem dX11_readsDays_76 : decode cX11_readsDays 76 = .ok (.aload_n 0, 1) := by decide +kernel
theorem dX11_readsDays_77 : decode cX11_readsDays 77 = .ok (.getfield 164, 3) := by decide +kernel
theorem dX11_readsDays_80 : decode cX11_readsDays 80 = .ok (.iload_n 1, 1) := by decide +kernel
theorem dX11_readsDays_81 : decode cX11_readsDays 81 = .ok (.iastore, 1) := by decide +kernel
theorem dX11_readsDays_82 : decode cX11_readsDays 82 = .ok (.iload_n 1, 1) := by decide +kernel
theorem dX11_readsDays_83 : decode cX11_readsDays 83 = .ok (.ifCond .eq 7, 3) := by decide +kernel
theorem dX11_readsDays_86 : decode cX11_readsDays 86 = .ok (.iconst 1, 1) := by decide +kernel
theorem dX11_readsDays_87 : decode cX11_readsDays 87 = .ok (.goto 4, 3) := by decide +kernel
theorem dX11_readsDays_90 : decode cX11_readsDays 90 = .ok (.iconst 0, 1) := by decide +kernel
theorem dX11_readsDays_91 : decode cX11_readsDays 91 = .ok (.ireturn, 1) := by decide +kernel
theorem dX11_newEdition_0 : decode cX11_newEdition 0 = .ok (.aload_n 0, 1) := by decide +kernel
theorem dX11_newEdition_1 : decode cX11_newEdition 1 = .ok (.iconst 0, 1) := by decide +kernel
theorem dX11_newEdition_2 : decode cX11_newEdition 2 = .ok (.putfield 164, 3) := by decide +kernel
theorem dX11_newEdition_5 : decode cX11_newEdition 5 = .ok (.aload_n 0, 1) := by decide +kernel
theorem dX11_newEdition_6 : decode cX11_newEdition 6 = .ok (.iconst 0, 1) := by decide +kernel
theorem dX11_newEdition_7 : decode cX11_newEdition 7 = .ok (.putfield 167, 3) := by decide +kernel
theorem dX11_newEdition_10 : decode cX11_newEdition 10 = .ok (.iconst 1, 1) := by decide +kernel
theorem dX11_newEdition_11 : decode cX11_newEdition 11 = .ok (.istore_n 1, 1) := by decide +kernel
theorem dX11_newEdition_12 : decode cX11_newEdition 12 = .ok (.iload_n 1, 1) := by decide +kernel
theorem dX11_newEdition_13 : decode cX11_newEdition 13 = .ok (.ifCond .eq 29, 3) := by decide +kernel
theorem dX11_newEdition_16 : decode cX11_newEdition 16 = .ok (.aload_n 0, 1) := by decide +kernel
theorem dX11_newEdition_17 : decode cX11_newEdition 17 = .ok (.getfield 164, 3) := by decide +kernel
theorem dX11_newEdition_20 : decode cX11_newEdition 20 = .ok (.ifCond .eq 14, 3) := by decide +kernel
theorem dX11_newEdition_23 : decode cX11_newEdition 23 = .ok (.aload_n 0, 1) := by decide +kernel
theorem dX11_newEdition_24 : decode cX11_newEdition 24 = .ok (.getfield 167, 3) := by decide +kernel
theorem dX11_newEdition_27 : decode cX11_newEdition 27 = .ok (.aload_n 0, 1) := by decide +kernel
theorem dX11_newEdition_28 : decode cX11_newEdition 28 = .ok (.getfield 159, 3) := by decide +kernel
theorem dX11_newEdition_31 : decode cX11_newEdition 31 = .ok (.if_icmp .ge 11, 3) := by decide +kernel
theorem dX11_newEdition_34 : decode cX11_newEdition 34 = .ok (.aload_n 0, 1) := by decide +kernel
theorem dX11_newEdition_35 : decode cX11_newEdition 35 = .ok (.invokevirtual 180, 3) := by decide +kernel
theorem dX11_newEdition_38 : decode cX11_newEdition 38 = .ok (.istore_n 1, 1) := by decide +kernel
theorem dX11_newEdition_39 : decode cX11_newEdition 39 = .ok (.goto (-27), 3) := by decide +kernel
theorem dX11_newEdition_42 : decode cX11_newEdition 42 = .ok (.iload_n 1, 1) := by decide +kernel
theorem dX11_newEdition_43 : decode cX11_newEdition 43 = .ok (.ifCond .ne 15, 3) := by decide +kernel
theorem dX11_newEdition_46 : decode cX11_newEdition 46 = .ok (.aload_n 0, 1) := by decide +kernel
theorem dX11_newEdition_47 : decode cX11_newEdition 47 = .ok (.ldc 183, 2) := by decide +kernel
theorem dX11_newEdition_49 : decode cX11_newEdition 49 = .ok (.aload_n 0, 1) := by decide +kernel
theorem dX11_newEdition_50 : decode cX11_newEdition 50 = .ok (.getfield 167, 3) := by decide +kernel
theorem dX11_newEdition_53 : decode cX11_newEdition 53 = .ok (.isub, 1) := by decide +kernel
theorem dX11_newEdition_54 : decode cX11_newEdition 54 = .ok (.invokevirtual 132, 3) := by decide +kernel
theorem dX11_newEdition_57 : decode cX11_newEdition 57 = .ok (.ireturn, 1) := by decide +kernel
theorem dX11_newEdition_58 : decode cX11_newEdition 58 = .ok (.aload_n 0, 1) := by decide +kernel
theorem dX11_newEdition_59 : decode cX11_newEdition 59 = .ok (.getfield 184, 3) := by decide +kernel
theorem dX11_newEdition_62 : decode cX11_newEdition 62 = .ok (.iconst 4, 1) := by decide +kernel
theorem dX11_newEdition_63 : decode cX11_newEdition 63 = .ok (.if_icmp .ne 10, 3) := by decide +kernel
theorem dX11_newEdition_66 : decode cX11_newEdition 66 = .ok (.aload_n 0, 1) := by decide +kernel
theorem dX11_newEdition_67 : decode cX11_newEdition 67 = .ok (.ldc 136, 2) := by decide +kernel
theorem dX11_newEdition_69 : decode cX11_newEdition 69 = .ok (.invokevirtual 132, 3) := by decide +kernel
theorem dX11_newEdition_72 : decode cX11_newEdition 72 = .ok (.ireturn, 1) := by decide +kernel
theorem dX11_newEdition_73 : decode cX11_newEdition 73 = .ok (.aload_n 0, 1) := by decide +kernel
theorem dX11_newEdition_74 : decode cX11_newEdition 74 = .ok (.getfield 32, 3) := by decide +kernel
theorem dX11_newEdition_77 : decode cX11_newEdition 77 = .ok (.aload_n 0, 1) := by decide +kernel
theorem dX11_newEdition_78 : decode cX11_newEdition 78 = .ok (.getfield 184, 3) := by decide +kernel
theorem dX11_newEdition_81 : decode cX11_newEdition 81 = .ok (.aload_n 0, 1) := by decide +kernel
theorem dX11_newEdition_82 : decode cX11_newEdition 82 = .ok (.getfield 164, 3) := by decide +kernel
theorem dX11_newEdition_85 : decode cX11_newEdition 85 = .ok (.iastore, 1) := by decide +kernel
theorem dX11_newEdition_86 : decode cX11_newEdition 86 = .ok (.iconst 0, 1) := by decide +kernel
theorem dX11_newEdition_87 : decode cX11_newEdition 87 = .ok (.istore_n 2, 1) := by decide +kernel
theorem dX11_newEdition_88 : decode cX11_newEdition 88 = .ok (.iload_n 2, 1) := by decide +kernel
theorem dX11_newEdition_89 : decode cX11_newEdition 89 = .ok (.aload_n 0, 1) := by decide +kernel
theorem dX11_newEdition_90 : decode cX11_newEdition 90 = .ok (.getfield 164, 3) := by decide +kernel
theorem dX11_newEdition_93 : decode cX11_newEdition 93 = .ok (.if_icmp .ge 79, 3) := by decide +kernel
theorem dX11_newEdition_96 : decode cX11_newEdition 96 = .ok (.bipush 12, 2) := by decide +kernel
theorem dX11_newEdition_98 : decode cX11_newEdition 98 = .ok (.aload_n 0, 1) := by decide +kernel
theorem dX11_newEdition_99 : decode cX11_newEdition 99 = .ok (.getfield 184, 3) := by decide +kernel
theorem dX11_newEdition_102 : decode cX11_newEdition 102 = .ok (.imul, 1) := by decide +kernel
theorem dX11_newEdition_103 : decode cX11_newEdition 103 = .ok (.iload_n 2, 1) := by decide +kernel
theorem dX11_newEdition_104 : decode cX11_newEdition 104 = .ok (.iadd, 1) := by decide +kernel
theorem dX11_newEdition_105 : decode cX11_newEdition 105 = .ok (.istore_n 3, 1) := by decide +kernel
theorem dX11_newEdition_106 : decode cX11_newEdition 106 = .ok (.aload_n 0, 1) := by decide +kernel
theorem dX11_newEdition_107 : decode cX11_newEdition 107 = .ok (.getfield 35, 3) := by decide +kernel
theorem dX11_newEdition_110 : decode cX11_newEdition 110 = .ok (.iload_n 3, 1) := by decide +kernel
theorem dX11_newEdition_111 : decode cX11_newEdition 111 = .ok (.aload_n 0, 1) := by decide +kernel
theorem dX11_newEdition_112 : decode cX11_newEdition 112 = .ok (.getfield 86, 3) := by decide +kernel
theorem dX11_newEdition_115 : decode cX11_newEdition 115 = .ok (.iload_n 2, 1) := by decide +kernel
theorem dX11_newEdition_116 : decode cX11_newEdition 116 = .ok (.iaload, 1) := by decide +kernel
theorem dX11_newEdition_117 : decode cX11_newEdition 117 = .ok (.iastore, 1) := by decide +kernel
theorem dX11_newEdition_118 : decode cX11_newEdition 118 = .ok (.aload_n 0, 1) := by decide +kernel
theorem dX11_newEdition_119 : decode cX11_newEdition 119 = .ok (.getfield 38, 3) := by decide +kernel
theorem dX11_newEdition_122 : decode cX11_newEdition 122 = .ok (.iload_n 3, 1) := by decide +kernel
theorem dX11_newEdition_123 : decode cX11_newEdition 123 = .ok (.aload_n 0, 1) := by decide +kernel
theorem dX11_newEdition_124 : decode cX11_newEdition 124 = .ok (.getfield 89, 3) := by decide +kernel
theorem dX11_newEdition_127 : decode cX11_newEdition 127 = .ok (.iload_n 2, 1) := by decide +kernel
theorem dX11_newEdition_128 : decode cX11_newEdition 128 = .ok (.iaload, 1) := by decide +kernel
theorem dX11_newEdition_129 : decode cX11_newEdition 129 = .ok (.iastore, 1) := by decide +kernel
theorem dX11_newEdition_130 : decode cX11_newEdition 130 = .ok (.aload_n 0, 1) := by decide +kernel
theorem dX11_newEdition_131 : decode cX11_newEdition 131 = .ok (.getfield 41, 3) := by decide +kernel
theorem dX11_newEdition_134 : decode cX11_newEdition 134 = .ok (.iload_n 3, 1) := by decide +kernel
theorem dX11_newEdition_135 : decode cX11_newEdition 135 = .ok (.aload_n 0, 1) := by decide +kernel
theorem dX11_newEdition_136 : decode cX11_newEdition 136 = .ok (.getfield 92, 3) := by decide +kernel
theorem dX11_newEdition_139 : decode cX11_newEdition 139 = .ok (.iload_n 2, 1) := by decide +kernel
theorem dX11_newEdition_140 : decode cX11_newEdition 140 = .ok (.iaload, 1) := by decide +kernel
theorem dX11_newEdition_141 : decode cX11_newEdition 141 = .ok (.iastore, 1) := by decide +kernel
theorem dX11_newEdition_142 : decode cX11_newEdition 142 = .ok (.aload_n 0, 1) := by decide +kernel
theorem dX11_newEdition_143 : decode cX11_newEdition 143 = .ok (.getfield 44, 3) := by decide +kernel
theorem dX11_newEdition_146 : decode cX11_newEdition 146 = .ok (.iload_n 3, 1) := by decide +kernel
theorem dX11_newEdition_147 : decode cX11_newEdition 147 = .ok (.aload_n 0, 1) := by decide +kernel
theorem dX11_newEdition_148 : decode cX11_newEdition 148 = .ok (.getfield 95, 3) := by decide +kernel
theorem dX11_newEdition_151 : decode cX11_newEdition 151 = .ok (.iload_n 2, 1) := by decide +kernel
theorem dX11_newEdition_152 : decode cX11_newEdition 152 = .ok (.iaload, 1) := by decide +kernel
theorem dX11_newEdition_153 : decode cX11_newEdition 153 = .ok (.iastore, 1) := by decide +kernel
theorem dX11_newEdition_154 : decode cX11_newEdition 154 = .ok (.aload_n 0, 1) := by decide +kernel
theorem dX11_newEdition_155 : decode cX11_newEdition 155 = .ok (.getfield 47, 3) := by decide +kernel
theorem dX11_newEdition_158 : decode cX11_newEdition 158 = .ok (.iload_n 3, 1) := by decide +kernel
theorem dX11_newEdition_159 : decode cX11_newEdition 159 = .ok (.aload_n 0, 1) := by decide +kernel
theorem dX11_newEdition_160 : decode cX11_newEdition 160 = .ok (.getfield 98, 3) := by decide +kernel
theorem dX11_newEdition_163 : decode cX11_newEdition 163 = .ok (.iload_n 2, 1) := by decide +kernel
theorem dX11_newEdition_164 : decode cX11_newEdition 164 = .ok (.iaload, 1) := by decide +kernel
theorem dX11_newEdition_165 : decode cX11_newEdition 165 = .ok (.iastore, 1) := by decide +kernel
theorem dX11_newEdition_166 : decode cX11_newEdition 166 = .ok (.iinc 2 1, 3) := by decide +kernel
theorem dX11_newEdition_169 : decode cX11_newEdition 169 = .ok (.goto (-81), 3) := by decide +kernel
theorem dX11_newEdition_172 : decode cX11_newEdition 172 = .ok (.aload_n 0, 1) := by decide +kernel
theorem dX11_newEdition_173 : decode cX11_newEdition 173 = .ok (.dup, 1) := by decide +kernel
theorem dX11_newEdition_174 : decode cX11_newEdition 174 = .ok (.getfield 184, 3) := by decide +kernel
theorem dX11_newEdition_177 : decode cX11_newEdition 177 = .ok (.iconst 1, 1) := by decide +kernel
theorem dX11_newEdition_178 : decode cX11_newEdition 178 = .ok (.iadd, 1) := by decide +kernel
theorem dX11_newEdition_179 : decode cX11_newEdition 179 = .ok (.putfield 184, 3) := by decide +kernel
theorem dX11_newEdition_182 : decode cX11_newEdition 182 = .ok (.aload_n 0, 1) := by decide +kernel
theorem dX11_newEdition_183 : decode cX11_newEdition 183 = .ok (.getfield 184, 3) := by decide +kernel
theorem dX11_newEdition_186 : decode cX11_newEdition 186 = .ok (.iconst 1, 1) := by decide +kernel
theorem dX11_newEdition_187 : decode cX11_newEdition 187 = .ok (.isub, 1) := by decide +kernel
theorem dX11_newEdition_188 : decode cX11_newEdition 188 = .ok (.ireturn, 1) := by decide +kernel
theorem dX11_story_0 : decode cX11_story 0 = .ok (.aload_n 0, 1) := by decide +kernel
theorem dX11_story_1 : decode cX11_story 1 = .ok (.invokevirtual 187, 3) := by decide +kernel
theorem dX11_story_4 : decode cX11_story 4 = .ok (.istore_n 1, 1) := by decide +kernel
theorem dX11_story_5 : decode cX11_story 5 = .ok (.aload_n 0, 1) := by decide +kernel
theorem dX11_story_6 : decode cX11_story 6 = .ok (.iconst 0, 1) := by decide +kernel
theorem dX11_story_7 : decode cX11_story 7 = .ok (.putfield 159, 3) := by decide +kernel
theorem dX11_story_10 : decode cX11_story 10 = .ok (.iload_n 1, 1) := by decide +kernel
theorem dX11_story_11 : decode cX11_story 11 = .ok (.ireturn, 1) := by decide +kernel
theorem dX11_isEdition_0 : decode cX11_isEdition 0 = .ok (.iload_n 1, 1) := by decide +kernel
theorem dX11_isEdition_1 : decode cX11_isEdition 1 = .ok (.iconst 0, 1) := by decide +kernel
theorem dX11_isEdition_2 : decode cX11_isEdition 2 = .ok (.aload_n 0, 1) := by decide +kernel
theorem dX11_isEdition_3 : decode cX11_isEdition 3 = .ok (.getfield 184, 3) := by decide +kernel
theorem dX11_isEdition_6 : decode cX11_isEdition 6 = .ok (.iconst 1, 1) := by decide +kernel
theorem dX11_isEdition_7 : decode cX11_isEdition 7 = .ok (.isub, 1) := by decide +kernel
theorem dX11_isEdition_8 : decode cX11_isEdition 8 = .ok (.invokestatic 121, 3) := by decide +kernel
theorem dX11_isEdition_11 : decode cX11_isEdition 11 = .ok (.ireturn, 1) := by decide +kernel
theorem dX11_isPiece_0 : decode cX11_isPiece 0 = .ok (.aload_n 0, 1) := by decide +kernel
theorem dX11_isPiece_1 : decode cX11_isPiece 1 = .ok (.iload_n 1, 1) := by decide +kernel
theorem dX11_isPiece_2 : decode cX11_isPiece 2 = .ok (.invokevirtual 191, 3) := by decide +kernel
theorem dX11_isPiece_5 : decode cX11_isPiece 5 = .ok (.ifCond .eq 23, 3) := by decide +kernel
theorem dX11_isPiece_8 : decode cX11_isPiece 8 = .ok (.iload_n 2, 1) := by decide +kernel
theorem dX11_isPiece_9 : decode cX11_isPiece 9 = .ok (.iconst 0, 1) := by decide +kernel
theorem dX11_isPiece_10 : decode cX11_isPiece 10 = .ok (.aload_n 0, 1) := by decide +kernel
theorem dX11_isPiece_11 : decode cX11_isPiece 11 = .ok (.getfield 32, 3) := by decide +kernel
theorem dX11_isPiece_14 : decode cX11_isPiece 14 = .ok (.iload_n 1, 1) := by decide +kernel
theorem dX11_isPiece_15 : decode cX11_isPiece 15 = .ok (.iaload, 1) := by decide +kernel
theorem dX11_isPiece_16 : decode cX11_isPiece 16 = .ok (.iconst 1, 1) := by decide +kernel
theorem dX11_isPiece_17 : decode cX11_isPiece 17 = .ok (.isub, 1) := by decide +kernel
theorem dX11_isPiece_18 : decode cX11_isPiece 18 = .ok (.invokestatic 121, 3) := by decide +kernel
theorem dX11_isPiece_21 : decode cX11_isPiece 21 = .ok (.ifCond .eq 7, 3) := by decide +kernel
theorem dX11_isPiece_24 : decode cX11_isPiece 24 = .ok (.iconst 1, 1) := by decide +kernel
theorem dX11_isPiece_25 : decode cX11_isPiece 25 = .ok (.goto 4, 3) := by decide +kernel
theorem dX11_isPiece_28 : decode cX11_isPiece 28 = .ok (.iconst 0, 1) := by decide +kernel
theorem dX11_isPiece_29 : decode cX11_isPiece 29 = .ok (.ireturn, 1) := by decide +kernel
theorem dX11_as_0 : decode cX11_as 0 = .ok (.aload_n 0, 1) := by decide +kernel
theorem dX11_as_1 : decode cX11_as 1 = .ok (.iload_n 1, 1) := by decide +kernel
theorem dX11_as_2 : decode cX11_as 2 = .ok (.iload_n 2, 1) := by decide +kernel
theorem dX11_as_3 : decode cX11_as 3 = .ok (.invokevirtual 194, 3) := by decide +kernel
theorem dX11_as_6 : decode cX11_as 6 = .ok (.ifCond .eq 12, 3) := by decide +kernel
theorem dX11_as_9 : decode cX11_as 9 = .ok (.iload_n 3, 1) := by decide +kernel
theorem dX11_as_10 : decode cX11_as 10 = .ok (.iconst 0, 1) := by decide +kernel
theorem dX11_as_11 : decode cX11_as 11 = .ok (.iconst 3, 1) := by decide +kernel
theorem dX11_as_12 : decode cX11_as 12 = .ok (.invokestatic 121, 3) := by decide +kernel
theorem dX11_as_15 : decode cX11_as 15 = .ok (.ifCond .ne 10, 3) := by decide +kernel
theorem dX11_as_18 : decode cX11_as 18 = .ok (.aload_n 0, 1) := by decide +kernel
theorem dX11_as_19 : decode cX11_as 19 = .ok (.ldc 131, 2) := by decide +kernel
theorem dX11_as_21 : decode cX11_as 21 = .ok (.invokevirtual 132, 3) := by decide +kernel
theorem dX11_as_24 : decode cX11_as 24 = .ok (.ireturn, 1) := by decide +kernel
theorem dX11_as_25 : decode cX11_as 25 = .ok (.aload_n 0, 1) := by decide +kernel
theorem dX11_as_26 : decode cX11_as 26 = .ok (.getfield 35, 3) := by decide +kernel
theorem dX11_as_29 : decode cX11_as 29 = .ok (.bipush 12, 2) := by decide +kernel
theorem dX11_as_31 : decode cX11_as 31 = .ok (.iload_n 1, 1) := by decide +kernel
theorem dX11_as_32 : decode cX11_as 32 = .ok (.imul, 1) := by decide +kernel
theorem dX11_as_33 : decode cX11_as 33 = .ok (.iload_n 2, 1) := by decide +kernel
theorem dX11_as_34 : decode cX11_as 34 = .ok (.iadd, 1) := by decide +kernel
theorem dX11_as_35 : decode cX11_as 35 = .ok (.iaload, 1) := by decide +kernel
theorem dX11_as_36 : decode cX11_as 36 = .ok (.istore 4, 2) := by decide +kernel
theorem dX11_as_38 : decode cX11_as 38 = .ok (.iload_n 3, 1) := by decide +kernel
theorem dX11_as_39 : decode cX11_as 39 = .ok (.ifCond .eq 20, 3) := by decide +kernel
theorem dX11_as_42 : decode cX11_as 42 = .ok (.iload 4, 2) := by decide +kernel
theorem dX11_as_44 : decode cX11_as 44 = .ok (.iload_n 3, 1) := by decide +kernel
theorem dX11_as_45 : decode cX11_as 45 = .ok (.if_icmp .eq 14, 3) := by decide +kernel
theorem dX11_as_48 : decode cX11_as 48 = .ok (.iload_n 3, 1) := by decide +kernel
theorem dX11_as_49 : decode cX11_as 49 = .ok (.iconst 2, 1) := by decide +kernel
theorem dX11_as_50 : decode cX11_as 50 = .ok (.if_icmp .ne 13, 3) := by decide +kernel
theorem dX11_as_53 : decode cX11_as 53 = .ok (.iload 4, 2) := by decide +kernel
theorem dX11_as_55 : decode cX11_as 55 = .ok (.iconst 3, 1) := by decide +kernel
theorem dX11_as_56 : decode cX11_as 56 = .ok (.if_icmp .ne 7, 3) := by decide +kernel
theorem dX11_as_59 : decode cX11_as 59 = .ok (.iload_n 2, 1) := by decide +kernel
theorem dX11_as_60 : decode cX11_as 60 = .ok (.goto 9, 3) := by decide +kernel
theorem dX11_as_63 : decode cX11_as 63 = .ok (.aload_n 0, 1) := by decide +kernel
theorem dX11_as_64 : decode cX11_as 64 = .ok (.ldc 198, 2) := by decide +kernel
theorem dX11_as_66 : decode cX11_as 66 = .ok (.invokevirtual 132, 3) := by decide +kernel
theorem dX11_as_69 : decode cX11_as 69 = .ok (.ireturn, 1) := by decide +kernel
theorem dX11_of_0 : decode cX11_of 0 = .ok (.aload_n 0, 1) := by decide +kernel
theorem dX11_of_1 : decode cX11_of 1 = .ok (.iload_n 1, 1) := by decide +kernel
theorem dX11_of_2 : decode cX11_of 2 = .ok (.iload_n 2, 1) := by decide +kernel
theorem dX11_of_3 : decode cX11_of 3 = .ok (.invokevirtual 194, 3) := by decide +kernel
theorem dX11_of_6 : decode cX11_of 6 = .ok (.ifCond .ne 10, 3) := by decide +kernel
theorem dX11_of_9 : decode cX11_of 9 = .ok (.aload_n 0, 1) := by decide +kernel
theorem dX11_of_10 : decode cX11_of 10 = .ok (.ldc 131, 2) := by decide +kernel
theorem dX11_of_12 : decode cX11_of 12 = .ok (.invokevirtual 132, 3) := by decide +kernel
theorem dX11_of_15 : decode cX11_of 15 = .ok (.ireturn, 1) := by decide +kernel
theorem dX11_of_16 : decode cX11_of 16 = .ok (.bipush 12, 2) := by decide +kernel
theorem dX11_of_18 : decode cX11_of 18 = .ok (.iload_n 1, 1) := by decide +kernel
theorem dX11_of_19 : decode cX11_of 19 = .ok (.imul, 1) := by decide +kernel
theorem dX11_of_20 : decode cX11_of 20 = .ok (.iload_n 2, 1) := by decide +kernel
theorem dX11_of_21 : decode cX11_of 21 = .ok (.iadd, 1) := by decide +kernel
theorem dX11_of_22 : decode cX11_of 22 = .ok (.istore 4, 2) := by decide +kernel
theorem dX11_of_24 : decode cX11_of 24 = .ok (.iload_n 3, 1) := by decide +kernel
theorem dX11_of_25 : decode cX11_of 25 = .ok (.tableswitch 75 0 4 #[35, 43, 51, 59, 67], 35) := by decide +kernel
theorem dX11_of_60 : decode cX11_of 60 = .ok (.aload_n 0, 1) := by decide +kernel
theorem dX11_of_61 : decode cX11_of 61 = .ok (.getfield 35, 3) := by decide +kernel
