theorem dX8_holds_55 : decode cX8_holds 55 = .ok (.ifCond .ne 7, 3) := by decide +kernel
theorem dX8_holds_58 : decode cX8_holds 58 = .ok (.iconst 1, 1) := by decide +kernel
theorem dX8_holds_59 : decode cX8_holds 59 = .ok (.goto 4, 3) := by decide +kernel
theorem dX8_holds_62 : decode cX8_holds 62 = .ok (.iconst 0, 1) := by decide +kernel
theorem dX8_holds_63 : decode cX8_holds 63 = .ok (.bastore, 1) := by decide +kernel
theorem dX8_holds_64 : decode cX8_holds 64 = .ok (.goto 183, 3) := by decide +kernel
theorem dX8_holds_67 : decode cX8_holds 67 = .ok (.iload 6, 2) := by decide +kernel
theorem dX8_holds_69 : decode cX8_holds 69 = .ok (.ifCond .ge 82, 3) := by decide +kernel
theorem dX8_holds_72 : decode cX8_holds 72 = .ok (.iinc 4 (-1), 3) := by decide +kernel
theorem dX8_holds_75 : decode cX8_holds 75 = .ok (.aload_n 0, 1) := by decide +kernel
theorem dX8_holds_76 : decode cX8_holds 76 = .ok (.getfield 92, 3) := by decide +kernel
theorem dX8_holds_79 : decode cX8_holds 79 = .ok (.iload 4, 2) := by decide +kernel
theorem dX8_holds_81 : decode cX8_holds 81 = .ok (.iconst 1, 1) := by decide +kernel
theorem dX8_holds_82 : decode cX8_holds 82 = .ok (.isub, 1) := by decide +kernel
theorem dX8_holds_83 : decode cX8_holds 83 = .ok (.iload 6, 2) := by decide +kernel
theorem dX8_holds_85 : decode cX8_holds 85 = .ok (.bipush (-38), 2) := by decide +kernel
theorem dX8_holds_87 : decode cX8_holds 87 = .ok (.if_icmp .ne 33, 3) := by decide +kernel
theorem dX8_holds_90 : decode cX8_holds 90 = .ok (.aload_n 0, 1) := by decide +kernel
theorem dX8_holds_91 : decode cX8_holds 91 = .ok (.getfield 92, 3) := by decide +kernel
theorem dX8_holds_94 : decode cX8_holds 94 = .ok (.iload 4, 2) := by decide +kernel
theorem dX8_holds_96 : decode cX8_holds 96 = .ok (.iconst 1, 1) := by decide +kernel
theorem dX8_holds_97 : decode cX8_holds 97 = .ok (.isub, 1) := by decide +kernel
theorem dX8_holds_98 : decode cX8_holds 98 = .ok (.baload, 1) := by decide +kernel
theorem dX8_holds_99 : decode cX8_holds 99 = .ok (.ifCond .eq 17, 3) := by decide +kernel
theorem dX8_holds_102 : decode cX8_holds 102 = .ok (.aload_n 0, 1) := by decide +kernel
theorem dX8_holds_103 : decode cX8_holds 103 = .ok (.getfield 92, 3) := by decide +kernel
theorem dX8_holds_106 : decode cX8_holds 106 = .ok (.iload 4, 2) := by decide +kernel
theorem dX8_holds_108 : decode cX8_holds 108 = .ok (.baload, 1) := by decide +kernel
theorem dX8_holds_109 : decode cX8_holds 109 = .ok (.ifCond .eq 7, 3) := by decide +kernel
theorem dX8_holds_112 : decode cX8_holds 112 = .ok (.iconst 1, 1) := by decide +kernel
theorem dX8_holds_113 : decode cX8_holds 113 = .ok (.goto 34, 3) := by decide +kernel
theorem dX8_holds_116 : decode cX8_holds 116 = .ok (.iconst 0, 1) := by decide +kernel
theorem dX8_holds_117 : decode cX8_holds 117 = .ok (.goto 30, 3) := by decide +kernel
theorem dX8_holds_120 : decode cX8_holds 120 = .ok (.aload_n 0, 1) := by decide +kernel
theorem dX8_holds_121 : decode cX8_holds 121 = .ok (.getfield 92, 3) := by decide +kernel
theorem dX8_holds_124 : decode cX8_holds 124 = .ok (.iload 4, 2) := by decide +kernel
theorem dX8_holds_126 : decode cX8_holds 126 = .ok (.iconst 1, 1) := by decide +kernel
theorem dX8_holds_127 : decode cX8_holds 127 = .ok (.isub, 1) := by decide +kernel
theorem dX8_holds_128 : decode cX8_holds 128 = .ok (.baload, 1) := by decide +kernel
theorem dX8_holds_129 : decode cX8_holds 129 = .ok (.ifCond .ne 13, 3) := by decide +kernel
theorem dX8_holds_132 : decode cX8_holds 132 = .ok (.aload_n 0, 1) := by decide +kernel
theorem dX8_holds_133 : decode cX8_holds 133 = .ok (.getfield 92, 3) := by decide +kernel
theorem dX8_holds_136 : decode cX8_holds 136 = .ok (.iload 4, 2) := by decide +kernel
theorem dX8_holds_138 : decode cX8_holds 138 = .ok (.baload, 1) := by decide +kernel
theorem dX8_holds_139 : decode cX8_holds 139 = .ok (.ifCond .eq 7, 3) := by decide +kernel
theorem dX8_holds_142 : decode cX8_holds 142 = .ok (.iconst 1, 1) := by decide +kernel
theorem dX8_holds_143 : decode cX8_holds 143 = .ok (.goto 4, 3) := by decide +kernel
theorem dX8_holds_146 : decode cX8_holds 146 = .ok (.iconst 0, 1) := by decide +kernel
theorem dX8_holds_147 : decode cX8_holds 147 = .ok (.bastore, 1) := by decide +kernel
theorem dX8_holds_148 : decode cX8_holds 148 = .ok (.goto 99, 3) := by decide +kernel
theorem dX8_holds_151 : decode cX8_holds 151 = .ok (.aload_n 0, 1) := by decide +kernel
theorem dX8_holds_152 : decode cX8_holds 152 = .ok (.iload 6, 2) := by decide +kernel
theorem dX8_holds_154 : decode cX8_holds 154 = .ok (.sipush 1000, 3) := by decide +kernel
theorem dX8_holds_157 : decode cX8_holds 157 = .ok (.idiv, 1) := by decide +kernel
theorem dX8_holds_158 : decode cX8_holds 158 = .ok (.iload_n 2, 1) := by decide +kernel
theorem dX8_holds_159 : decode cX8_holds 159 = .ok (.iload_n 3, 1) := by decide +kernel
theorem dX8_holds_160 : decode cX8_holds 160 = .ok (.invokevirtual 264, 3) := by decide +kernel
theorem dX8_holds_163 : decode cX8_holds 163 = .ok (.istore 7, 2) := by decide +kernel
theorem dX8_holds_165 : decode cX8_holds 165 = .ok (.iload 6, 2) := by decide +kernel
theorem dX8_holds_167 : decode cX8_holds 167 = .ok (.bipush 100, 2) := by decide +kernel
theorem dX8_holds_169 : decode cX8_holds 169 = .ok (.idiv, 1) := by decide +kernel
theorem dX8_holds_170 : decode cX8_holds 170 = .ok (.bipush 10, 2) := by decide +kernel
theorem dX8_holds_172 : decode cX8_holds 172 = .ok (.irem, 1) := by decide +kernel
theorem dX8_holds_173 : decode cX8_holds 173 = .ok (.istore 8, 2) := by decide +kernel
theorem dX8_holds_175 : decode cX8_holds 175 = .ok (.aload_n 0, 1) := by decide +kernel
theorem dX8_holds_176 : decode cX8_holds 176 = .ok (.getfield 92, 3) := by decide +kernel
theorem dX8_holds_179 : decode cX8_holds 179 = .ok (.iload 4, 2) := by decide +kernel
theorem dX8_holds_181 : decode cX8_holds 181 = .ok (.iload 8, 2) := by decide +kernel
theorem dX8_holds_183 : decode cX8_holds 183 = .ok (.ifCond .ne 21, 3) := by decide +kernel
theorem dX8_holds_186 : decode cX8_holds 186 = .ok (.iload 7, 2) := by decide +kernel
theorem dX8_holds_188 : decode cX8_holds 188 = .ok (.iload 6, 2) := by decide +kernel
theorem dX8_holds_190 : decode cX8_holds 190 = .ok (.bipush 100, 2) := by decide +kernel
theorem dX8_holds_192 : decode cX8_holds 192 = .ok (.irem, 1) := by decide +kernel
theorem dX8_holds_193 : decode cX8_holds 193 = .ok (.if_icmp .ge 7, 3) := by decide +kernel
theorem dX8_holds_196 : decode cX8_holds 196 = .ok (.iconst 1, 1) := by decide +kernel
theorem dX8_holds_197 : decode cX8_holds 197 = .ok (.goto 46, 3) := by decide +kernel
theorem dX8_holds_200 : decode cX8_holds 200 = .ok (.iconst 0, 1) := by decide +kernel
theorem dX8_holds_201 : decode cX8_holds 201 = .ok (.goto 42, 3) := by decide +kernel
theorem dX8_holds_204 : decode cX8_holds 204 = .ok (.iload 8, 2) := by decide +kernel
theorem dX8_holds_206 : decode cX8_holds 206 = .ok (.iconst 1, 1) := by decide +kernel
theorem dX8_holds_207 : decode cX8_holds 207 = .ok (.if_icmp .ne 21, 3) := by decide +kernel
theorem dX8_holds_210 : decode cX8_holds 210 = .ok (.iload 7, 2) := by decide +kernel
theorem dX8_holds_212 : decode cX8_holds 212 = .ok (.iload 6, 2) := by decide +kernel
theorem dX8_holds_214 : decode cX8_holds 214 = .ok (.bipush 100, 2) := by decide +kernel
theorem dX8_holds_216 : decode cX8_holds 216 = .ok (.irem, 1) := by decide +kernel
theorem dX8_holds_217 : decode cX8_holds 217 = .ok (.if_icmp .ne 7, 3) := by decide +kernel
theorem dX8_holds_220 : decode cX8_holds 220 = .ok (.iconst 1, 1) := by decide +kernel
theorem dX8_holds_221 : decode cX8_holds 221 = .ok (.goto 22, 3) := by decide +kernel
theorem dX8_holds_224 : decode cX8_holds 224 = .ok (.iconst 0, 1) := by decide +kernel
theorem dX8_holds_225 : decode cX8_holds 225 = .ok (.goto 18, 3) := by decide +kernel
theorem dX8_holds_228 : decode cX8_holds 228 = .ok (.iload 7, 2) := by decide +kernel
theorem dX8_holds_230 : decode cX8_holds 230 = .ok (.iload 6, 2) := by decide +kernel
theorem dX8_holds_232 : decode cX8_holds 232 = .ok (.bipush 100, 2) := by decide +kernel
theorem dX8_holds_234 : decode cX8_holds 234 = .ok (.irem, 1) := by decide +kernel
theorem dX8_holds_235 : decode cX8_holds 235 = .ok (.if_icmp .le 7, 3) := by decide +kernel
theorem dX8_holds_238 : decode cX8_holds 238 = .ok (.iconst 1, 1) := by decide +kernel
theorem dX8_holds_239 : decode cX8_holds 239 = .ok (.goto 4, 3) := by decide +kernel
theorem dX8_holds_242 : decode cX8_holds 242 = .ok (.iconst 0, 1) := by decide +kernel
theorem dX8_holds_243 : decode cX8_holds 243 = .ok (.bastore, 1) := by decide +kernel
theorem dX8_holds_244 : decode cX8_holds 244 = .ok (.iinc 4 1, 3) := by decide +kernel
theorem dX8_holds_247 : decode cX8_holds 247 = .ok (.iinc 5 1, 3) := by decide +kernel
theorem dX8_holds_250 : decode cX8_holds 250 = .ok (.goto (-239), 3) := by decide +kernel
theorem dX8_holds_253 : decode cX8_holds 253 = .ok (.aload_n 0, 1) := by decide +kernel
theorem dX8_holds_254 : decode cX8_holds 254 = .ok (.getfield 92, 3) := by decide +kernel
theorem dX8_holds_257 : decode cX8_holds 257 = .ok (.iconst 0, 1) := by decide +kernel
theorem dX8_holds_258 : decode cX8_holds 258 = .ok (.baload, 1) := by decide +kernel
theorem dX8_holds_259 : decode cX8_holds 259 = .ok (.ireturn, 1) := by decide +kernel
theorem dX8_sumOf_0 : decode cX8_sumOf 0 = .ok (.iconst 0, 1) := by decide +kernel
theorem dX8_sumOf_1 : decode cX8_sumOf 1 = .ok (.istore 4, 2) := by decide +kernel
theorem dX8_sumOf_3 : decode cX8_sumOf 3 = .ok (.aload_n 0, 1) := by decide +kernel
theorem dX8_sumOf_4 : decode cX8_sumOf 4 = .ok (.invokevirtual 258, 3) := by decide +kernel
theorem dX8_sumOf_7 : decode cX8_sumOf 7 = .ok (.istore 5, 2) := by decide +kernel
theorem dX8_sumOf_9 : decode cX8_sumOf 9 = .ok (.iload 5, 2) := by decide +kernel
theorem dX8_sumOf_11 : decode cX8_sumOf 11 = .ok (.aload_n 0, 1) := by decide +kernel
theorem dX8_sumOf_12 : decode cX8_sumOf 12 = .ok (.invokevirtual 261, 3) := by decide +kernel
theorem dX8_sumOf_15 : decode cX8_sumOf 15 = .ok (.if_icmp .ge 47, 3) := by decide +kernel
theorem dX8_sumOf_18 : decode cX8_sumOf 18 = .ok (.iload 4, 2) := by decide +kernel
theorem dX8_sumOf_20 : decode cX8_sumOf 20 = .ok (.aload_n 0, 1) := by decide +kernel
theorem dX8_sumOf_21 : decode cX8_sumOf 21 = .ok (.getfield 62, 3) := by decide +kernel
theorem dX8_sumOf_24 : decode cX8_sumOf 24 = .ok (.iload 5, 2) := by decide +kernel
theorem dX8_sumOf_26 : decode cX8_sumOf 26 = .ok (.iaload, 1) := by decide +kernel
theorem dX8_sumOf_27 : decode cX8_sumOf 27 = .ok (.iload_n 1, 1) := by decide +kernel
theorem dX8_sumOf_28 : decode cX8_sumOf 28 = .ok (.if_icmp .ne 24, 3) := by decide +kernel
theorem dX8_sumOf_31 : decode cX8_sumOf 31 = .ok (.aload_n 0, 1) := by decide +kernel
theorem dX8_sumOf_32 : decode cX8_sumOf 32 = .ok (.iload 5, 2) := by decide +kernel
theorem dX8_sumOf_34 : decode cX8_sumOf 34 = .ok (.iload_n 2, 1) := by decide +kernel
theorem dX8_sumOf_35 : decode cX8_sumOf 35 = .ok (.iload_n 3, 1) := by decide +kernel
theorem dX8_sumOf_36 : decode cX8_sumOf 36 = .ok (.invokevirtual 268, 3) := by decide +kernel
theorem dX8_sumOf_39 : decode cX8_sumOf 39 = .ok (.ifCond .eq 13, 3) := by decide +kernel
theorem dX8_sumOf_42 : decode cX8_sumOf 42 = .ok (.aload_n 0, 1) := by decide +kernel
theorem dX8_sumOf_43 : decode cX8_sumOf 43 = .ok (.getfield 65, 3) := by decide +kernel
theorem dX8_sumOf_46 : decode cX8_sumOf 46 = .ok (.iload 5, 2) := by decide +kernel
theorem dX8_sumOf_48 : decode cX8_sumOf 48 = .ok (.iaload, 1) := by decide +kernel
theorem dX8_sumOf_49 : decode cX8_sumOf 49 = .ok (.goto 4, 3) := by decide +kernel
theorem dX8_sumOf_52 : decode cX8_sumOf 52 = .ok (.iconst 0, 1) := by decide +kernel
theorem dX8_sumOf_53 : decode cX8_sumOf 53 = .ok (.iadd, 1) := by decide +kernel
theorem dX8_sumOf_54 : decode cX8_sumOf 54 = .ok (.istore 4, 2) := by decide +kernel
theorem dX8_sumOf_56 : decode cX8_sumOf 56 = .ok (.iinc 5 1, 3) := by decide +kernel
theorem dX8_sumOf_59 : decode cX8_sumOf 59 = .ok (.goto (-50), 3) := by decide +kernel
theorem dX8_sumOf_62 : decode cX8_sumOf 62 = .ok (.iload 4, 2) := by decide +kernel
theorem dX8_sumOf_64 : decode cX8_sumOf 64 = .ok (.ireturn, 1) := by decide +kernel
theorem dX8_showsOf_0 : decode cX8_showsOf 0 = .ok (.aload_n 0, 1) := by decide +kernel
theorem dX8_showsOf_1 : decode cX8_showsOf 1 = .ok (.getfield 23, 3) := by decide +kernel
theorem dX8_showsOf_4 : decode cX8_showsOf 4 = .ok (.iconst 3, 1) := by decide +kernel
theorem dX8_showsOf_5 : decode cX8_showsOf 5 = .ok (.iload_n 1, 1) := by decide +kernel
theorem dX8_showsOf_6 : decode cX8_showsOf 6 = .ok (.imul, 1) := by decide +kernel
theorem dX8_showsOf_7 : decode cX8_showsOf 7 = .ok (.iload_n 2, 1) := by decide +kernel
theorem dX8_showsOf_8 : decode cX8_showsOf 8 = .ok (.iadd, 1) := by decide +kernel
theorem dX8_showsOf_9 : decode cX8_showsOf 9 = .ok (.iaload, 1) := by decide +kernel
theorem dX8_showsOf_10 : decode cX8_showsOf 10 = .ok (.aload_n 0, 1) := by decide +kernel
theorem dX8_showsOf_11 : decode cX8_showsOf 11 = .ok (.iconst 1, 1) := by decide +kernel
theorem dX8_showsOf_12 : decode cX8_showsOf 12 = .ok (.iload_n 1, 1) := by decide +kernel
theorem dX8_showsOf_13 : decode cX8_showsOf 13 = .ok (.iload_n 2, 1) := by decide +kernel
theorem dX8_showsOf_14 : decode cX8_showsOf 14 = .ok (.invokevirtual 271, 3) := by decide +kernel
theorem dX8_showsOf_17 : decode cX8_showsOf 17 = .ok (.iadd, 1) := by decide +kernel
theorem dX8_showsOf_18 : decode cX8_showsOf 18 = .ok (.istore_n 3, 1) := by decide +kernel
theorem dX8_showsOf_19 : decode cX8_showsOf 19 = .ok (.aload_n 0, 1) := by decide +kernel
theorem dX8_showsOf_20 : decode cX8_showsOf 20 = .ok (.getfield 16, 3) := by decide +kernel
theorem dX8_showsOf_23 : decode cX8_showsOf 23 = .ok (.iload_n 1, 1) := by decide +kernel
theorem dX8_showsOf_24 : decode cX8_showsOf 24 = .ok (.iaload, 1) := by decide +kernel
theorem dX8_showsOf_25 : decode cX8_showsOf 25 = .ok (.tableswitch 196 1 6 #[39, 59, 78, 94, 125, 157], 39) := by decide +kernel
theorem dX8_showsOf_64 : decode cX8_showsOf 64 = .ok (.iload_n 2, 1) := by decide +kernel
theorem dX8_showsOf_65 : decode cX8_showsOf 65 = .ok (.iconst 1, 1) := by decide +kernel
theorem dX8_showsOf_66 : decode cX8_showsOf 66 = .ok (.if_icmp .ne 16, 3) := by decide +kernel
theorem dX8_showsOf_69 : decode cX8_showsOf 69 = .ok (.iload_n 3, 1) := by decide +kernel
theorem dX8_showsOf_70 : decode cX8_showsOf 70 = .ok (.aload_n 0, 1) := by decide +kernel
theorem dX8_showsOf_71 : decode cX8_showsOf 71 = .ok (.getfield 20, 3) := by decide +kernel
theorem dX8_showsOf_74 : decode cX8_showsOf 74 = .ok (.iload_n 1, 1) := by decide +kernel
theorem dX8_showsOf_75 : decode cX8_showsOf 75 = .ok (.iaload, 1) := by decide +kernel
theorem dX8_showsOf_76 : decode cX8_showsOf 76 = .ok (.iconst 2, 1) := by decide +kernel
theorem dX8_showsOf_77 : decode cX8_showsOf 77 = .ok (.irem, 1) := by decide +kernel
theorem dX8_showsOf_78 : decode cX8_showsOf 78 = .ok (.iadd, 1) := by decide +kernel
theorem dX8_showsOf_79 : decode cX8_showsOf 79 = .ok (.goto 4, 3) := by decide +kernel
theorem dX8_showsOf_82 : decode cX8_showsOf 82 = .ok (.iload_n 3, 1) := by decide +kernel
theorem dX8_showsOf_83 : decode cX8_showsOf 83 = .ok (.ireturn, 1) := by decide +kernel
theorem dX8_showsOf_84 : decode cX8_showsOf 84 = .ok (.iload_n 2, 1) := by decide +kernel
theorem dX8_showsOf_85 : decode cX8_showsOf 85 = .ok (.iconst 1, 1) := by decide +kernel
theorem dX8_showsOf_86 : decode cX8_showsOf 86 = .ok (.if_icmp .ne 15, 3) := by decide +kernel
theorem dX8_showsOf_89 : decode cX8_showsOf 89 = .ok (.aload_n 0, 1) := by decide +kernel
theorem dX8_showsOf_90 : decode cX8_showsOf 90 = .ok (.getfield 13, 3) := by decide +kernel
theorem dX8_showsOf_93 : decode cX8_showsOf 93 = .ok (.iconst 5, 1) := by decide +kernel
theorem dX8_showsOf_94 : decode cX8_showsOf 94 = .ok (.if_icmp .ge 7, 3) := by decide +kernel
theorem dX8_showsOf_97 : decode cX8_showsOf 97 = .ok (.iconst 0, 1) := by decide +kernel
theorem dX8_showsOf_98 : decode cX8_showsOf 98 = .ok (.goto 4, 3) := by decide +kernel
theorem dX8_showsOf_101 : decode cX8_showsOf 101 = .ok (.iload_n 3, 1) := by decide +kernel
theorem dX8_showsOf_102 : decode cX8_showsOf 102 = .ok (.ireturn, 1) := by decide +kernel
theorem dX8_showsOf_103 : decode cX8_showsOf 103 = .ok (.iload_n 2, 1) := by decide +kernel
theorem dX8_showsOf_104 : decode cX8_showsOf 104 = .ok (.ifCond .ne 13, 3) := by decide +kernel
theorem dX8_showsOf_107 : decode cX8_showsOf 107 = .ok (.iload_n 3, 1) := by decide +kernel
theorem dX8_showsOf_108 : decode cX8_showsOf 108 = .ok (.ifCond .le 9, 3) := by decide +kernel
theorem dX8_showsOf_111 : decode cX8_showsOf 111 = .ok (.iload_n 3, 1) := by decide +kernel
theorem dX8_showsOf_112 : decode cX8_showsOf 112 = .ok (.iconst 1, 1) := by decide +kernel
theorem dX8_showsOf_113 : decode cX8_showsOf 113 = .ok (.isub, 1) := by decide +kernel
theorem dX8_showsOf_114 : decode cX8_showsOf 114 = .ok (.goto 4, 3) := by decide +kernel
theorem dX8_showsOf_117 : decode cX8_showsOf 117 = .ok (.iload_n 3, 1) := by decide +kernel
theorem dX8_showsOf_118 : decode cX8_showsOf 118 = .ok (.ireturn, 1) := by decide +kernel
theorem dX8_showsOf_119 : decode cX8_showsOf 119 = .ok (.iload_n 2, 1) := by decide +kernel
theorem dX8_showsOf_120 : decode cX8_showsOf 120 = .ok (.iconst 1, 1) := by decide +kernel
theorem dX8_showsOf_121 : decode cX8_showsOf 121 = .ok (.if_icmp .ne 16, 3) := by decide +kernel
theorem dX8_showsOf_124 : decode cX8_showsOf 124 = .ok (.iload_n 3, 1) := by decide +kernel
theorem dX8_showsOf_125 : decode cX8_showsOf 125 = .ok (.aload_n 0, 1) := by decide +kernel
theorem dX8_showsOf_126 : decode cX8_showsOf 126 = .ok (.getfield 20, 3) := by decide +kernel
theorem dX8_showsOf_129 : decode cX8_showsOf 129 = .ok (.iload_n 1, 1) := by decide +kernel
theorem dX8_showsOf_130 : decode cX8_showsOf 130 = .ok (.iaload, 1) := by decide +kernel
theorem dX8_showsOf_131 : decode cX8_showsOf 131 = .ok (.iconst 2, 1) := by decide +kernel
theorem dX8_showsOf_132 : decode cX8_showsOf 132 = .ok (.irem, 1) := by decide +kernel
theorem dX8_showsOf_133 : decode cX8_showsOf 133 = .ok (.iadd, 1) := by decide +kernel
theorem dX8_showsOf_134 : decode cX8_showsOf 134 = .ok (.goto 15, 3) := by decide +kernel
theorem dX8_showsOf_137 : decode cX8_showsOf 137 = .ok (.iload_n 2, 1) := by decide +kernel
theorem dX8_showsOf_138 : decode cX8_showsOf 138 = .ok (.iconst 2, 1) := by decide +kernel
theorem dX8_showsOf_139 : decode cX8_showsOf 139 = .ok (.if_icmp .ne 9, 3) := by decide +kernel
theorem dX8_showsOf_142 : decode cX8_showsOf 142 = .ok (.iconst 2, 1) := by decide +kernel
theorem dX8_showsOf_143 : decode cX8_showsOf 143 = .ok (.iload_n 3, 1) := by decide +kernel
theorem dX8_showsOf_144 : decode cX8_showsOf 144 = .ok (.imul, 1) := by decide +kernel
theorem dX8_showsOf_145 : decode cX8_showsOf 145 = .ok (.goto 4, 3) := by decide +kernel
theorem dX8_showsOf_148 : decode cX8_showsOf 148 = .ok (.iload_n 3, 1) := by decide +kernel
theorem dX8_showsOf_149 : decode cX8_showsOf 149 = .ok (.ireturn, 1) := by decide +kernel
theorem dX8_showsOf_150 : decode cX8_showsOf 150 = .ok (.aload_n 0, 1) := by decide +kernel
theorem dX8_showsOf_151 : decode cX8_showsOf 151 = .ok (.getfield 13, 3) := by decide +kernel
theorem dX8_showsOf_154 : decode cX8_showsOf 154 = .ok (.aload_n 0, 1) := by decide +kernel
theorem dX8_showsOf_155 : decode cX8_showsOf 155 = .ok (.getfield 20, 3) := by decide +kernel
theorem dX8_showsOf_158 : decode cX8_showsOf 158 = .ok (.iload_n 1, 1) := by decide +kernel
theorem dX8_showsOf_159 : decode cX8_showsOf 159 = .ok (.iaload, 1) := by decide +kernel
theorem dX8_showsOf_160 : decode cX8_showsOf 160 = .ok (.if_icmp .eq 16, 3) := by decide +kernel
theorem dX8_showsOf_163 : decode cX8_showsOf 163 = .ok (.iload_n 2, 1) := by decide +kernel
theorem dX8_showsOf_164 : decode cX8_showsOf 164 = .ok (.iconst 1, 1) := by decide +kernel
theorem dX8_showsOf_165 : decode cX8_showsOf 165 = .ok (.if_icmp .ne 15, 3) := by decide +kernel
theorem dX8_showsOf_168 : decode cX8_showsOf 168 = .ok (.aload_n 0, 1) := by decide +kernel
theorem dX8_showsOf_169 : decode cX8_showsOf 169 = .ok (.getfield 13, 3) := by decide +kernel
theorem dX8_showsOf_172 : decode cX8_showsOf 172 = .ok (.iconst 5, 1) := by decide +kernel
theorem dX8_showsOf_173 : decode cX8_showsOf 173 = .ok (.if_icmp .ge 7, 3) := by decide +kernel
theorem dX8_showsOf_176 : decode cX8_showsOf 176 = .ok (.iconst 0, 1) := by decide +kernel
theorem dX8_showsOf_177 : decode cX8_showsOf 177 = .ok (.goto 4, 3) := by decide +kernel
theorem dX8_showsOf_180 : decode cX8_showsOf 180 = .ok (.iload_n 3, 1) := by decide +kernel
theorem dX8_showsOf_181 : decode cX8_showsOf 181 = .ok (.ireturn, 1) := by decide +kernel
theorem dX8_showsOf_182 : decode cX8_showsOf 182 = .ok (.iload_n 2, 1) := by decide +kernel
theorem dX8_showsOf_183 : decode cX8_showsOf 183 = .ok (.iconst 2, 1) := by decide +kernel
theorem dX8_showsOf_184 : decode cX8_showsOf 184 = .ok (.if_icmp .ne 21, 3) := by decide +kernel
theorem dX8_showsOf_187 : decode cX8_showsOf 187 = .ok (.aload_n 0, 1) := by decide +kernel
theorem dX8_showsOf_188 : decode cX8_showsOf 188 = .ok (.getfield 35, 3) := by decide +kernel
theorem dX8_showsOf_191 : decode cX8_showsOf 191 = .ok (.iconst 3, 1) := by decide +kernel
theorem dX8_showsOf_192 : decode cX8_showsOf 192 = .ok (.iload_n 1, 1) := by decide +kernel
theorem dX8_showsOf_193 : decode cX8_showsOf 193 = .ok (.imul, 1) := by decide +kernel
theorem dX8_showsOf_194 : decode cX8_showsOf 194 = .ok (.aload_n 0, 1) := by decide +kernel
theorem dX8_showsOf_195 : decode cX8_showsOf 195 = .ok (.getfield 13, 3) := by decide +kernel
theorem dX8_showsOf_198 : decode cX8_showsOf 198 = .ok (.iconst 3, 1) := by decide +kernel
theorem dX8_showsOf_199 : decode cX8_showsOf 199 = .ok (.irem, 1) := by decide +kernel
theorem dX8_showsOf_200 : decode cX8_showsOf 200 = .ok (.iadd, 1) := by decide +kernel
theorem dX8_showsOf_201 : decode cX8_showsOf 201 = .ok (.iaload, 1) := by decide +kernel
theorem dX8_showsOf_202 : decode cX8_showsOf 202 = .ok (.goto 18, 3) := by decide +kernel
theorem dX8_showsOf_205 : decode cX8_showsOf 205 = .ok (.iload_n 2, 1) := by decide +kernel
theorem dX8_showsOf_206 : decode cX8_showsOf 206 = .ok (.ifCond .ne 13, 3) := by decide +kernel
theorem dX8_showsOf_209 : decode cX8_showsOf 209 = .ok (.iload_n 3, 1) := by decide +kernel
theorem dX8_showsOf_210 : decode cX8_showsOf 210 = .ok (.ifCond .le 9, 3) := by decide +kernel
theorem dX8_showsOf_213 : decode cX8_showsOf 213 = .ok (.iload_n 3, 1) := by decide +kernel
theorem dX8_showsOf_214 : decode cX8_showsOf 214 = .ok (.iconst 1, 1) := by decide +kernel
theorem dX8_showsOf_215 : decode cX8_showsOf 215 = .ok (.isub, 1) := by decide +kernel
theorem dX8_showsOf_216 : decode cX8_showsOf 216 = .ok (.goto 4, 3) := by decide +kernel
theorem dX8_showsOf_219 : decode cX8_showsOf 219 = .ok (.iload_n 3, 1) := by decide +kernel
theorem dX8_showsOf_220 : decode cX8_showsOf 220 = .ok (.ireturn, 1) := by decide +kernel
theorem dX8_showsOf_221 : decode cX8_showsOf 221 = .ok (.iload_n 3, 1) := by decide +kernel
theorem dX8_showsOf_222 : decode cX8_showsOf 222 = .ok (.ireturn, 1) := by decide +kernel
theorem dX8_layShows_0 : decode cX8_layShows 0 = .ok (.iconst 0, 1) := by decide +kernel
theorem dX8_layShows_1 : decode cX8_layShows 1 = .ok (.istore_n 1, 1) := by decide +kernel
theorem dX8_layShows_2 : decode cX8_layShows 2 = .ok (.iload_n 1, 1) := by decide +kernel
theorem dX8_layShows_3 : decode cX8_layShows 3 = .ok (.aload_n 0, 1) := by decide +kernel
theorem dX8_layShows_4 : decode cX8_layShows 4 = .ok (.getfield 7, 3) := by decide +kernel
theorem dX8_layShows_7 : decode cX8_layShows 7 = .ok (.if_icmp .ge 59, 3) := by decide +kernel
theorem dX8_layShows_10 : decode cX8_layShows 10 = .ok (.aload_n 0, 1) := by decide +kernel
theorem dX8_layShows_11 : decode cX8_layShows 11 = .ok (.getfield 99, 3) := by decide +kernel
theorem dX8_layShows_14 : decode cX8_layShows 14 = .ok (.iload_n 1, 1) := by decide +kernel
theorem dX8_layShows_15 : decode cX8_layShows 15 = .ok (.aload_n 0, 1) := by decide +kernel
theorem dX8_layShows_16 : decode cX8_layShows 16 = .ok (.getfield 26, 3) := by decide +kernel
theorem dX8_layShows_19 : decode cX8_layShows 19 = .ok (.iload_n 1, 1) := by decide +kernel
theorem dX8_layShows_20 : decode cX8_layShows 20 = .ok (.iaload, 1) := by decide +kernel
theorem dX8_layShows_21 : decode cX8_layShows 21 = .ok (.aload_n 0, 1) := by decide +kernel
theorem dX8_layShows_22 : decode cX8_layShows 22 = .ok (.iconst 0, 1) := by decide +kernel
theorem dX8_layShows_23 : decode cX8_layShows 23 = .ok (.iload_n 1, 1) := by decide +kernel
theorem dX8_layShows_24 : decode cX8_layShows 24 = .ok (.bipush 9, 2) := by decide +kernel
theorem dX8_layShows_26 : decode cX8_layShows 26 = .ok (.invokevirtual 271, 3) := by decide +kernel
theorem dX8_layShows_29 : decode cX8_layShows 29 = .ok (.iadd, 1) := by decide +kernel
theorem dX8_layShows_30 : decode cX8_layShows 30 = .ok (.iastore, 1) := by decide +kernel
theorem dX8_layShows_31 : decode cX8_layShows 31 = .ok (.iconst 0, 1) := by decide +kernel
theorem dX8_layShows_32 : decode cX8_layShows 32 = .ok (.istore_n 2, 1) := by decide +kernel
theorem dX8_layShows_33 : decode cX8_layShows 33 = .ok (.iload_n 2, 1) := by decide +kernel
theorem dX8_layShows_34 : decode cX8_layShows 34 = .ok (.iconst 3, 1) := by decide +kernel
theorem dX8_layShows_35 : decode cX8_layShows 35 = .ok (.if_icmp .ge 25, 3) := by decide +kernel
theorem dX8_layShows_38 : decode cX8_layShows 38 = .ok (.aload_n 0, 1) := by decide +kernel
theorem dX8_layShows_39 : decode cX8_layShows 39 = .ok (.getfield 96, 3) := by decide +kernel
theorem dX8_layShows_42 : decode cX8_layShows 42 = .ok (.iconst 3, 1) := by decide +kernel
theorem dX8_layShows_43 : decode cX8_layShows 43 = .ok (.iload_n 1, 1) := by decide +kernel
theorem dX8_layShows_44 : decode cX8_layShows 44 = .ok (.imul, 1) := by decide +kernel
theorem dX8_layShows_45 : decode cX8_layShows 45 = .ok (.iload_n 2, 1) := by decide +kernel
theorem dX8_layShows_46 : decode cX8_layShows 46 = .ok (.iadd, 1) := by decide +kernel
theorem dX8_layShows_47 : decode cX8_layShows 47 = .ok (.aload_n 0, 1) := by decide +kernel
theorem dX8_layShows_48 : decode cX8_layShows 48 = .ok (.iload_n 1, 1) := by decide +kernel
theorem dX8_layShows_49 : decode cX8_layShows 49 = .ok (.iload_n 2, 1) := by decide +kernel
theorem dX8_layShows_50 : decode cX8_layShows 50 = .ok (.invokevirtual 274, 3) := by decide +kernel
theorem dX8_layShows_53 : decode cX8_layShows 53 = .ok (.iastore, 1) := by decide +kernel
theorem dX8_layShows_54 : decode cX8_layShows 54 = .ok (.iinc 2 1, 3) := by decide +kernel
theorem dX8_layShows_57 : decode cX8_layShows 57 = .ok (.goto (-24), 3) := by decide +kernel
theorem dX8_layShows_60 : decode cX8_layShows 60 = .ok (.iinc 1 1, 3) := by decide +kernel
theorem dX8_layShows_63 : decode cX8_layShows 63 = .ok (.goto (-61), 3) := by decide +kernel
theorem dX8_layShows_66 : decode cX8_layShows 66 = .ok (.return_, 1) := by decide +kernel
theorem dX8_ownCount_0 : decode cX8_ownCount 0 = .ok (.iconst 0, 1) := by decide +kernel
theorem dX8_ownCount_1 : decode cX8_ownCount 1 = .ok (.istore_n 2, 1) := by decide +kernel
theorem dX8_ownCount_2 : decode cX8_ownCount 2 = .ok (.iconst 0, 1) := by decide +kernel
theorem dX8_ownCount_3 : decode cX8_ownCount 3 = .ok (.istore_n 3, 1) := by decide +kernel
theorem dX8_ownCount_4 : decode cX8_ownCount 4 = .ok (.iload_n 3, 1) := by decide +kernel
theorem dX8_ownCount_5 : decode cX8_ownCount 5 = .ok (.aload_n 0, 1) := by decide +kernel
theorem dX8_ownCount_6 : decode cX8_ownCount 6 = .ok (.getfield 7, 3) := by decide +kernel
theorem dX8_ownCount_9 : decode cX8_ownCount 9 = .ok (.if_icmp .ge 29, 3) := by decide +kernel
theorem dX8_ownCount_12 : decode cX8_ownCount 12 = .ok (.iload_n 2, 1) := by decide +kernel
theorem dX8_ownCount_13 : decode cX8_ownCount 13 = .ok (.aload_n 0, 1) := by decide +kernel
theorem dX8_ownCount_14 : decode cX8_ownCount 14 = .ok (.getfield 29, 3) := by decide +kernel
theorem dX8_ownCount_17 : decode cX8_ownCount 17 = .ok (.iload_n 3, 1) := by decide +kernel
theorem dX8_ownCount_18 : decode cX8_ownCount 18 = .ok (.iaload, 1) := by decide +kernel
theorem dX8_ownCount_19 : decode cX8_ownCount 19 = .ok (.aload_n 0, 1) := by decide +kernel
theorem dX8_ownCount_20 : decode cX8_ownCount 20 = .ok (.getfield 96, 3) := by decide +kernel
theorem dX8_ownCount_23 : decode cX8_ownCount 23 = .ok (.iconst 3, 1) := by decide +kernel
theorem dX8_ownCount_24 : decode cX8_ownCount 24 = .ok (.iload_n 3, 1) := by decide +kernel
theorem dX8_ownCount_25 : decode cX8_ownCount 25 = .ok (.imul, 1) := by decide +kernel
theorem dX8_ownCount_26 : decode cX8_ownCount 26 = .ok (.iload_n 1, 1) := by decide +kernel
theorem dX8_ownCount_27 : decode cX8_ownCount 27 = .ok (.iadd, 1) := by decide +kernel
theorem dX8_ownCount_28 : decode cX8_ownCount 28 = .ok (.iaload, 1) := by decide +kernel
theorem dX8_ownCount_29 : decode cX8_ownCount 29 = .ok (.imul, 1) := by decide +kernel
theorem dX8_ownCount_30 : decode cX8_ownCount 30 = .ok (.iadd, 1) := by decide +kernel
theorem dX8_ownCount_31 : decode cX8_ownCount 31 = .ok (.istore_n 2, 1) := by decide +kernel
theorem dX8_ownCount_32 : decode cX8_ownCount 32 = .ok (.iinc 3 1, 3) := by decide +kernel
theorem dX8_ownCount_35 : decode cX8_ownCount 35 = .ok (.goto (-31), 3) := by decide +kernel
theorem dX8_ownCount_38 : decode cX8_ownCount 38 = .ok (.iload_n 2, 1) := by decide +kernel
theorem dX8_ownCount_39 : decode cX8_ownCount 39 = .ok (.ireturn, 1) := by decide +kernel
theorem dX8_secondCount_0 : decode cX8_secondCount 0 = .ok (.iconst 0, 1) := by decide +kernel
theorem dX8_secondCount_1 : decode cX8_secondCount 1 = .ok (.istore_n 2, 1) := by decide +kernel
theorem dX8_secondCount_2 : decode cX8_secondCount 2 = .ok (.iconst 0, 1) := by decide +kernel
theorem dX8_secondCount_3 : decode cX8_secondCount 3 = .ok (.istore_n 3, 1) := by decide +kernel
theorem dX8_secondCount_4 : decode cX8_secondCount 4 = .ok (.iload_n 3, 1) := by decide +kernel
theorem dX8_secondCount_5 : decode cX8_secondCount 5 = .ok (.aload_n 0, 1) := by decide +kernel
theorem dX8_secondCount_6 : decode cX8_secondCount 6 = .ok (.getfield 7, 3) := by decide +kernel
theorem dX8_secondCount_9 : decode cX8_secondCount 9 = .ok (.if_icmp .ge 29, 3) := by decide +kernel
theorem dX8_secondCount_12 : decode cX8_secondCount 12 = .ok (.iload_n 2, 1) := by decide +kernel
theorem dX8_secondCount_13 : decode cX8_secondCount 13 = .ok (.aload_n 0, 1) := by decide +kernel
theorem dX8_secondCount_14 : decode cX8_secondCount 14 = .ok (.getfield 32, 3) := by decide +kernel
theorem dX8_secondCount_17 : decode cX8_secondCount 17 = .ok (.iload_n 3, 1) := by decide +kernel
theorem dX8_secondCount_18 : decode cX8_secondCount 18 = .ok (.iaload, 1) := by decide +kernel
theorem dX8_secondCount_19 : decode cX8_secondCount 19 = .ok (.aload_n 0, 1) := by decide +kernel
theorem dX8_secondCount_20 : decode cX8_secondCount 20 = .ok (.getfield 96, 3) := by decide +kernel
theorem dX8_secondCount_23 : decode cX8_secondCount 23 = .ok (.iconst 3, 1) := by decide +kernel
theorem dX8_secondCount_24 : decode cX8_secondCount 24 = .ok (.iload_n 3, 1) := by decide +kernel
theorem dX8_secondCount_25 : decode cX8_secondCount 25 = .ok (.imul, 1) := by decide +kernel
theorem dX8_secondCount_26 : decode cX8_secondCount 26 = .ok (.iload_n 1, 1) := by decide +kernel
theorem dX8_secondCount_27 : decode cX8_secondCount 27 = .ok (.iadd, 1) := by decide +kernel
theorem dX8_secondCount_28 : decode cX8_secondCount 28 = .ok (.iaload, 1) := by decide +kernel
theorem dX8_secondCount_29 : decode cX8_secondCount 29 = .ok (.imul, 1) := by decide +kernel
theorem dX8_secondCount_30 : decode cX8_secondCount 30 = .ok (.iadd, 1) := by decide +kernel
theorem dX8_secondCount_31 : decode cX8_secondCount 31 = .ok (.istore_n 2, 1) := by decide +kernel
theorem dX8_secondCount_32 : decode cX8_secondCount 32 = .ok (.iinc 3 1, 3) := by decide +kernel
theorem dX8_secondCount_35 : decode cX8_secondCount 35 = .ok (.goto (-31), 3) := by decide +kernel
theorem dX8_secondCount_38 : decode cX8_secondCount 38 = .ok (.iload_n 2, 1) := by decide +kernel
theorem dX8_secondCount_39 : decode cX8_secondCount 39 = .ok (.ireturn, 1) := by decide +kernel
theorem dX8_ownToll_0 : decode cX8_ownToll 0 = .ok (.iconst 0, 1) := by decide +kernel
theorem dX8_ownToll_1 : decode cX8_ownToll 1 = .ok (.istore_n 1, 1) := by decide +kernel
theorem dX8_ownToll_2 : decode cX8_ownToll 2 = .ok (.iconst 0, 1) := by decide +kernel
theorem dX8_ownToll_3 : decode cX8_ownToll 3 = .ok (.istore_n 2, 1) := by decide +kernel
theorem dX8_ownToll_4 : decode cX8_ownToll 4 = .ok (.iload_n 2, 1) := by decide +kernel
theorem dX8_ownToll_5 : decode cX8_ownToll 5 = .ok (.aload_n 0, 1) := by decide +kernel
theorem dX8_ownToll_6 : decode cX8_ownToll 6 = .ok (.getfield 7, 3) := by decide +kernel
theorem dX8_ownToll_9 : decode cX8_ownToll 9 = .ok (.if_icmp .ge 25, 3) := by decide +kernel
theorem dX8_ownToll_12 : decode cX8_ownToll 12 = .ok (.iload_n 1, 1) := by decide +kernel
theorem dX8_ownToll_13 : decode cX8_ownToll 13 = .ok (.aload_n 0, 1) := by decide +kernel
theorem dX8_ownToll_14 : decode cX8_ownToll 14 = .ok (.getfield 29, 3) := by decide +kernel
theorem dX8_ownToll_17 : decode cX8_ownToll 17 = .ok (.iload_n 2, 1) := by decide +kernel
theorem dX8_ownToll_18 : decode cX8_ownToll 18 = .ok (.iaload, 1) := by decide +kernel
theorem dX8_ownToll_19 : decode cX8_ownToll 19 = .ok (.aload_n 0, 1) := by decide +kernel
theorem dX8_ownToll_20 : decode cX8_ownToll 20 = .ok (.getfield 99, 3) := by decide +kernel
theorem dX8_ownToll_23 : decode cX8_ownToll 23 = .ok (.iload_n 2, 1) := by decide +kernel
theorem dX8_ownToll_24 : decode cX8_ownToll 24 = .ok (.iaload, 1) := by decide +kernel
theorem dX8_ownToll_25 : decode cX8_ownToll 25 = .ok (.imul, 1) := by decide +kernel
theorem dX8_ownToll_26 : decode cX8_ownToll 26 = .ok (.iadd, 1) := by decide +kernel
theorem dX8_ownToll_27 : decode cX8_ownToll 27 = .ok (.istore_n 1, 1) := by decide +kernel
theorem dX8_ownToll_28 : decode cX8_ownToll 28 = .ok (.iinc 2 1, 3) := by decide +kernel
theorem dX8_ownToll_31 : decode cX8_ownToll 31 = .ok (.goto (-27), 3) := by decide +kernel
theorem dX8_ownToll_34 : decode cX8_ownToll 34 = .ok (.iload_n 1, 1) := by decide +kernel
theorem dX8_ownToll_35 : decode cX8_ownToll 35 = .ok (.ireturn, 1) := by decide +kernel
theorem dX8_secondToll_0 : decode cX8_secondToll 0 = .ok (.iconst 0, 1) := by decide +kernel
theorem dX8_secondToll_1 : decode cX8_secondToll 1 = .ok (.istore_n 1, 1) := by decide +kernel
theorem dX8_secondToll_2 : decode cX8_secondToll 2 = .ok (.iconst 0, 1) := by decide +kernel
theorem dX8_secondToll_3 : decode cX8_secondToll 3 = .ok (.istore_n 2, 1) := by decide +kernel
theorem dX8_secondToll_4 : decode cX8_secondToll 4 = .ok (.iload_n 2, 1) := by decide +kernel
theorem dX8_secondToll_5 : decode cX8_secondToll 5 = .ok (.aload_n 0, 1) := by decide +kernel
theorem dX8_secondToll_6 : decode cX8_secondToll 6 = .ok (.getfield 7, 3) := by decide +kernel
theorem dX8_secondToll_9 : decode cX8_secondToll 9 = .ok (.if_icmp .ge 25, 3) := by decide +kernel
theorem dX8_secondToll_12 : decode cX8_secondToll 12 = .ok (.iload_n 1, 1) := by decide +kernel
theorem dX8_secondToll_13 : decode cX8_secondToll 13 = .ok (.aload_n 0, 1) := by decide +kernel
theorem dX8_secondToll_14 : decode cX8_secondToll 14 = .ok (.getfield 32, 3) := by decide +kernel
theorem dX8_secondToll_17 : decode cX8_secondToll 17 = .ok (.iload_n 2, 1) := by decide +kernel
theorem dX8_secondToll_18 : decode cX8_secondToll 18 = .ok (.iaload, 1) := by decide +kernel
theorem dX8_secondToll_19 : decode cX8_secondToll 19 = .ok (.aload_n 0, 1) := by decide +kernel
theorem dX8_secondToll_20 : decode cX8_secondToll 20 = .ok (.getfield 99, 3) := by decide +kernel
theorem dX8_secondToll_23 : decode cX8_secondToll 23 = .ok (.iload_n 2, 1) := by decide +kernel
theorem dX8_secondToll_24 : decode cX8_secondToll 24 = .ok (.iaload, 1) := by decide +kernel
theorem dX8_secondToll_25 : decode cX8_secondToll 25 = .ok (.imul, 1) := by decide +kernel
theorem dX8_secondToll_26 : decode cX8_secondToll 26 = .ok (.iadd, 1) := by decide +kernel
theorem dX8_secondToll_27 : decode cX8_secondToll 27 = .ok (.istore_n 1, 1) := by decide +kernel
theorem dX8_secondToll_28 : decode cX8_secondToll 28 = .ok (.iinc 2 1, 3) := by decide +kernel
theorem dX8_secondToll_31 : decode cX8_secondToll 31 = .ok (.goto (-27), 3) := by decide +kernel
theorem dX8_secondToll_34 : decode cX8_secondToll 34 = .ok (.iload_n 1, 1) := by decide +kernel
theorem dX8_secondToll_35 : decode cX8_secondToll 35 = .ok (.ireturn, 1) := by decide +kernel
theorem dX8_of_0 : decode cX8_of 0 = .ok (.aload_n 0, 1) := by decide +kernel
theorem dX8_of_1 : decode cX8_of 1 = .ok (.iload_n 1, 1) := by decide +kernel
theorem dX8_of_2 : decode cX8_of 2 = .ok (.invokevirtual 208, 3) := by decide +kernel
theorem dX8_of_5 : decode cX8_of 5 = .ok (.ifCond .ne 5, 3) := by decide +kernel
theorem dX8_of_8 : decode cX8_of 8 = .ok (.iconst (-1), 1) := by decide +kernel
theorem dX8_of_9 : decode cX8_of 9 = .ok (.ireturn, 1) := by decide +kernel
theorem dX8_of_10 : decode cX8_of 10 = .ok (.aload_n 0, 1) := by decide +kernel
theorem dX8_of_11 : decode cX8_of 11 = .ok (.invokevirtual 278, 3) := by decide +kernel
theorem dX8_of_14 : decode cX8_of 14 = .ok (.aload_n 0, 1) := by decide +kernel
theorem dX8_of_15 : decode cX8_of 15 = .ok (.iload_n 2, 1) := by decide +kernel
theorem dX8_of_16 : decode cX8_of 16 = .ok (.bipush 10, 2) := by decide +kernel
theorem dX8_of_18 : decode cX8_of 18 = .ok (.bipush 12, 2) := by decide +kernel
theorem dX8_of_20 : decode cX8_of 20 = .ok (.invokevirtual 200, 3) := by decide +kernel
theorem dX8_of_23 : decode cX8_of 23 = .ok (.ifCond .eq 17, 3) := by decide +kernel
theorem dX8_of_26 : decode cX8_of 26 = .ok (.aload_n 0, 1) := by decide +kernel
theorem dX8_of_27 : decode cX8_of 27 = .ok (.getfield 96, 3) := by decide +kernel
theorem dX8_of_30 : decode cX8_of 30 = .ok (.iconst 3, 1) := by decide +kernel
theorem dX8_of_31 : decode cX8_of 31 = .ok (.iload_n 1, 1) := by decide +kernel
theorem dX8_of_32 : decode cX8_of 32 = .ok (.imul, 1) := by decide +kernel
theorem dX8_of_33 : decode cX8_of 33 = .ok (.iload_n 2, 1) := by decide +kernel
theorem dX8_of_34 : decode cX8_of 34 = .ok (.iadd, 1) := by decide +kernel
theorem dX8_of_35 : decode cX8_of 35 = .ok (.bipush 10, 2) := by decide +kernel
theorem dX8_of_37 : decode cX8_of 37 = .ok (.isub, 1) := by decide +kernel
theorem dX8_of_38 : decode cX8_of 38 = .ok (.iaload, 1) := by decide +kernel
theorem dX8_of_39 : decode cX8_of 39 = .ok (.ireturn, 1) := by decide +kernel
theorem dX8_of_40 : decode cX8_of 40 = .ok (.aload_n 0, 1) := by decide +kernel
theorem dX8_of_41 : decode cX8_of 41 = .ok (.iload_n 2, 1) := by decide +kernel
theorem dX8_of_42 : decode cX8_of 42 = .ok (.iconst 2, 1) := by decide +kernel
theorem dX8_of_43 : decode cX8_of 43 = .ok (.iconst 4, 1) := by decide +kernel
theorem dX8_of_44 : decode cX8_of 44 = .ok (.invokevirtual 200, 3) := by decide +kernel
theorem dX8_of_47 : decode cX8_of 47 = .ok (.ifCond .eq 16, 3) := by decide +kernel
theorem dX8_of_50 : decode cX8_of 50 = .ok (.aload_n 0, 1) := by decide +kernel
theorem dX8_of_51 : decode cX8_of 51 = .ok (.getfield 23, 3) := by decide +kernel
theorem dX8_of_54 : decode cX8_of 54 = .ok (.iconst 3, 1) := by decide +kernel
theorem dX8_of_55 : decode cX8_of 55 = .ok (.iload_n 1, 1) := by decide +kernel
theorem dX8_of_56 : decode cX8_of 56 = .ok (.imul, 1) := by decide +kernel
theorem dX8_of_57 : decode cX8_of 57 = .ok (.iload_n 2, 1) := by decide +kernel
theorem dX8_of_58 : decode cX8_of 58 = .ok (.iadd, 1) := by decide +kernel
theorem dX8_of_59 : decode cX8_of 59 = .ok (.iconst 2, 1) := by decide +kernel
theorem dX8_of_60 : decode cX8_of 60 = .ok (.isub, 1) := by decide +kernel
theorem dX8_of_61 : decode cX8_of 61 = .ok (.iaload, 1) := by decide +kernel
theorem dX8_of_62 : decode cX8_of 62 = .ok (.ireturn, 1) := by decide +kernel
theorem dX8_of_63 : decode cX8_of 63 = .ok (.iload_n 2, 1) := by decide +kernel
theorem dX8_of_64 : decode cX8_of 64 = .ok (.tableswitch 94 0 8 #[52, 59, 94, 94, 94, 66, 73, 80, 87], 52) := by decide +kernel
theorem dX8_of_116 : decode cX8_of 116 = .ok (.aload_n 0, 1) := by decide +kernel
theorem dX8_of_117 : decode cX8_of 117 = .ok (.getfield 16, 3) := by decide +kernel
theorem dX8_of_120 : decode cX8_of 120 = .ok (.iload_n 1, 1) := by decide +kernel
theorem dX8_of_121 : decode cX8_of 121 = .ok (.iaload, 1) := by decide +kernel
theorem dX8_of_122 : decode cX8_of 122 = .ok (.ireturn, 1) := by decide +kernel
theorem dX8_of_123 : decode cX8_of 123 = .ok (.aload_n 0, 1) := by decide +kernel
theorem dX8_of_124 : decode cX8_of 124 = .ok (.getfield 20, 3) := by decide +kernel
theorem dX8_of_127 : decode cX8_of 127 = .ok (.iload_n 1, 1) := by decide +kernel
theorem dX8_of_128 : decode cX8_of 128 = .ok (.iaload, 1) := by decide +kernel
theorem dX8_of_129 : decode cX8_of 129 = .ok (.ireturn, 1) := by decide +kernel
theorem dX8_of_130 : decode cX8_of 130 = .ok (.aload_n 0, 1) := by decide +kernel
theorem dX8_of_131 : decode cX8_of 131 = .ok (.getfield 26, 3) := by decide +kernel
theorem dX8_of_134 : decode cX8_of 134 = .ok (.iload_n 1, 1) := by decide +kernel
theorem dX8_of_135 : decode cX8_of 135 = .ok (.iaload, 1) := by decide +kernel
theorem dX8_of_136 : decode cX8_of 136 = .ok (.ireturn, 1) := by decide +kernel
theorem dX8_of_137 : decode cX8_of 137 = .ok (.aload_n 0, 1) := by decide +kernel
theorem dX8_of_138 : decode cX8_of 138 = .ok (.getfield 99, 3) := by decide +kernel
theorem dX8_of_141 : decode cX8_of 141 = .ok (.iload_n 1, 1) := by decide +kernel
theorem dX8_of_142 : decode cX8_of 142 = .ok (.iaload, 1) := by decide +kernel
theorem dX8_of_143 : decode cX8_of 143 = .ok (.ireturn, 1) := by decide +kernel
theorem dX8_of_144 : decode cX8_of 144 = .ok (.aload_n 0, 1) := by decide +kernel
theorem dX8_of_145 : decode cX8_of 145 = .ok (.getfield 29, 3) := by decide +kernel
theorem dX8_of_148 : decode cX8_of 148 = .ok (.iload_n 1, 1) := by decide +kernel
theorem dX8_of_149 : decode cX8_of 149 = .ok (.iaload, 1) := by decide +kernel
theorem dX8_of_150 : decode cX8_of 150 = .ok (.ireturn, 1) := by decide +kernel
theorem dX8_of_151 : decode cX8_of 151 = .ok (.aload_n 0, 1) := by decide +kernel
theorem dX8_of_152 : decode cX8_of 152 = .ok (.getfield 32, 3) := by decide +kernel
theorem dX8_of_155 : decode cX8_of 155 = .ok (.iload_n 1, 1) := by decide +kernel
theorem dX8_of_156 : decode cX8_of 156 = .ok (.iaload, 1) := by decide +kernel
theorem dX8_of_157 : decode cX8_of 157 = .ok (.ireturn, 1) := by decide +kernel
theorem dX8_of_158 : decode cX8_of 158 = .ok (.iconst (-1), 1) := by decide +kernel
theorem dX8_of_159 : decode cX8_of 159 = .ok (.ireturn, 1) := by decide +kernel
theorem dX8_told_0 : decode cX8_told 0 = .ok (.aload_n 0, 1) := by decide +kernel
theorem dX8_told_1 : decode cX8_told 1 = .ok (.invokevirtual 278, 3) := by decide +kernel
theorem dX8_told_4 : decode cX8_told 4 = .ok (.aload_n 0, 1) := by decide +kernel
theorem dX8_told_5 : decode cX8_told 5 = .ok (.iload_n 1, 1) := by decide +kernel
theorem dX8_told_6 : decode cX8_told 6 = .ok (.bipush 10, 2) := by decide +kernel
theorem dX8_told_8 : decode cX8_told 8 = .ok (.bipush 12, 2) := by decide +kernel
theorem dX8_told_10 : decode cX8_told 10 = .ok (.invokevirtual 200, 3) := by decide +kernel
theorem dX8_told_13 : decode cX8_told 13 = .ok (.ifCond .eq 12, 3) := by decide +kernel
theorem dX8_told_16 : decode cX8_told 16 = .ok (.aload_n 0, 1) := by decide +kernel
theorem dX8_told_17 : decode cX8_told 17 = .ok (.iload_n 1, 1) := by decide +kernel
theorem dX8_told_18 : decode cX8_told 18 = .ok (.bipush 10, 2) := by decide +kernel
theorem dX8_told_20 : decode cX8_told 20 = .ok (.isub, 1) := by decide +kernel
theorem dX8_told_21 : decode cX8_told 21 = .ok (.invokevirtual 281, 3) := by decide +kernel
theorem dX8_told_24 : decode cX8_told 24 = .ok (.ireturn, 1) := by decide +kernel
theorem dX8_told_25 : decode cX8_told 25 = .ok (.aload_n 0, 1) := by decide +kernel
theorem dX8_told_26 : decode cX8_told 26 = .ok (.iload_n 1, 1) := by decide +kernel
theorem dX8_told_27 : decode cX8_told 27 = .ok (.bipush 20, 2) := by decide +kernel
theorem dX8_told_29 : decode cX8_told 29 = .ok (.bipush 22, 2) := by decide +kernel
theorem dX8_told_31 : decode cX8_told 31 = .ok (.invokevirtual 200, 3) := by decide +kernel
theorem dX8_told_34 : decode cX8_told 34 = .ok (.ifCond .eq 12, 3) := by decide +kernel
theorem dX8_told_37 : decode cX8_told 37 = .ok (.aload_n 0, 1) := by decide +kernel
theorem dX8_told_38 : decode cX8_told 38 = .ok (.iload_n 1, 1) := by decide +kernel
theorem dX8_told_39 : decode cX8_told 39 = .ok (.bipush 20, 2) := by decide +kernel
theorem dX8_told_41 : decode cX8_told 41 = .ok (.isub, 1) := by decide +kernel
theorem dX8_told_42 : decode cX8_told 42 = .ok (.invokevirtual 284, 3) := by decide +kernel
theorem dX8_told_45 : decode cX8_told 45 = .ok (.ireturn, 1) := by decide +kernel
theorem dX8_told_46 : decode cX8_told 46 = .ok (.aload_n 0, 1) := by decide +kernel
theorem dX8_told_47 : decode cX8_told 47 = .ok (.iload_n 1, 1) := by decide +kernel
theorem dX8_told_48 : decode cX8_told 48 = .ok (.bipush 30, 2) := by decide +kernel
theorem dX8_told_50 : decode cX8_told 50 = .ok (.bipush 32, 2) := by decide +kernel
theorem dX8_told_52 : decode cX8_told 52 = .ok (.invokevirtual 200, 3) := by decide +kernel
theorem dX8_told_55 : decode cX8_told 55 = .ok (.ifCond .eq 30, 3) := by decide +kernel
theorem dX8_told_58 : decode cX8_told 58 = .ok (.aload_n 0, 1) := by decide +kernel
theorem dX8_told_59 : decode cX8_told 59 = .ok (.getfield 38, 3) := by decide +kernel
theorem dX8_told_62 : decode cX8_told 62 = .ok (.iload_n 1, 1) := by decide +kernel
theorem dX8_told_63 : decode cX8_told 63 = .ok (.bipush 30, 2) := by decide +kernel
theorem dX8_told_65 : decode cX8_told 65 = .ok (.isub, 1) := by decide +kernel
theorem dX8_told_66 : decode cX8_told 66 = .ok (.iaload, 1) := by decide +kernel
theorem dX8_told_67 : decode cX8_told 67 = .ok (.ifCond .ge 8, 3) := by decide +kernel
theorem dX8_told_70 : decode cX8_told 70 = .ok (.bipush (-5), 2) := by decide +kernel
theorem dX8_told_72 : decode cX8_told 72 = .ok (.goto 12, 3) := by decide +kernel
theorem dX8_told_75 : decode cX8_told 75 = .ok (.aload_n 0, 1) := by decide +kernel
theorem dX8_told_76 : decode cX8_told 76 = .ok (.getfield 38, 3) := by decide +kernel
theorem dX8_told_79 : decode cX8_told 79 = .ok (.iload_n 1, 1) := by decide +kernel
theorem dX8_told_80 : decode cX8_told 80 = .ok (.bipush 30, 2) := by decide +kernel
theorem dX8_told_82 : decode cX8_told 82 = .ok (.isub, 1) := by decide +kernel
theorem dX8_told_83 : decode cX8_told 83 = .ok (.iaload, 1) := by decide +kernel
theorem dX8_told_84 : decode cX8_told 84 = .ok (.ireturn, 1) := by decide +kernel
theorem dX8_told_85 : decode cX8_told 85 = .ok (.iload_n 1, 1) := by decide +kernel
theorem dX8_told_86 : decode cX8_told 86 = .ok (.tableswitch 50 0 3 #[30, 35, 40, 45], 30) := by decide +kernel
theorem dX8_told_116 : decode cX8_told 116 = .ok (.aload_n 0, 1) := by decide +kernel
theorem dX8_told_117 : decode cX8_told 117 = .ok (.invokevirtual 287, 3) := by decide +kernel
theorem dX8_told_120 : decode cX8_told 120 = .ok (.ireturn, 1) := by decide +kernel
theorem dX8_told_121 : decode cX8_told 121 = .ok (.aload_n 0, 1) := by decide +kernel
theorem dX8_told_122 : decode cX8_told 122 = .ok (.getfield 13, 3) := by decide +kernel
theorem dX8_told_125 : decode cX8_told 125 = .ok (.ireturn, 1) := by decide +kernel
theorem dX8_told_126 : decode cX8_told 126 = .ok (.aload_n 0, 1) := by decide +kernel
theorem dX8_told_127 : decode cX8_told 127 = .ok (.invokevirtual 290, 3) := by decide +kernel
theorem dX8_told_130 : decode cX8_told 130 = .ok (.ireturn, 1) := by decide +kernel
theorem dX8_told_131 : decode cX8_told 131 = .ok (.aload_n 0, 1) := by decide +kernel
theorem dX8_told_132 : decode cX8_told 132 = .ok (.invokevirtual 293, 3) := by decide +kernel
theorem dX8_told_135 : decode cX8_told 135 = .ok (.ireturn, 1) := by decide +kernel
theorem dX8_told_136 : decode cX8_told 136 = .ok (.sipush (-1001), 3) := by decide +kernel
theorem dX8_told_139 : decode cX8_told 139 = .ok (.ireturn, 1) := by decide +kernel
theorem dX8_firstHerd_0 : decode cX8_firstHerd 0 = .ok (.iconst 0, 1) := by decide +kernel
theorem dX8_firstHerd_1 : decode cX8_firstHerd 1 = .ok (.istore_n 1, 1) := by decide +kernel
theorem dX8_firstHerd_2 : decode cX8_firstHerd 2 = .ok (.iload_n 1, 1) := by decide +kernel
theorem dX8_firstHerd_3 : decode cX8_firstHerd 3 = .ok (.iconst 5, 1) := by decide +kernel
theorem dX8_firstHerd_4 : decode cX8_firstHerd 4 = .ok (.if_icmp .ge 16, 3) := by decide +kernel
theorem dX8_firstHerd_7 : decode cX8_firstHerd 7 = .ok (.aload_n 0, 1) := by decide +kernel
theorem dX8_firstHerd_8 : decode cX8_firstHerd 8 = .ok (.getfield 102, 3) := by decide +kernel
theorem dX8_firstHerd_11 : decode cX8_firstHerd 11 = .ok (.iload_n 1, 1) := by decide +kernel
theorem dX8_firstHerd_12 : decode cX8_firstHerd 12 = .ok (.iconst 0, 1) := by decide +kernel
theorem dX8_firstHerd_13 : decode cX8_firstHerd 13 = .ok (.iastore, 1) := by decide +kernel
theorem dX8_firstHerd_14 : decode cX8_firstHerd 14 = .ok (.iinc 1 1, 3) := by decide +kernel
theorem dX8_firstHerd_17 : decode cX8_firstHerd 17 = .ok (.goto (-15), 3) := by decide +kernel
theorem dX8_firstHerd_20 : decode cX8_firstHerd 20 = .ok (.aload_n 0, 1) := by decide +kernel
theorem dX8_firstHerd_21 : decode cX8_firstHerd 21 = .ok (.iconst 0, 1) := by decide +kernel
theorem dX8_firstHerd_22 : decode cX8_firstHerd 22 = .ok (.putfield 111, 3) := by decide +kernel
theorem dX8_firstHerd_25 : decode cX8_firstHerd 25 = .ok (.return_, 1) := by decide +kernel
theorem dX8_nextHerd_0 : decode cX8_nextHerd 0 = .ok (.aload_n 0, 1) := by decide +kernel
theorem dX8_nextHerd_1 : decode cX8_nextHerd 1 = .ok (.getfield 7, 3) := by decide +kernel
theorem dX8_nextHerd_4 : decode cX8_nextHerd 4 = .ok (.iconst 1, 1) := by decide +kernel
theorem dX8_nextHerd_5 : decode cX8_nextHerd 5 = .ok (.isub, 1) := by decide +kernel
theorem dX8_nextHerd_6 : decode cX8_nextHerd 6 = .ok (.istore_n 2, 1) := by decide +kernel
theorem dX8_nextHerd_7 : decode cX8_nextHerd 7 = .ok (.iload_n 2, 1) := by decide +kernel
theorem dX8_nextHerd_8 : decode cX8_nextHerd 8 = .ok (.ifCond .lt 61, 3) := by decide +kernel
theorem dX8_nextHerd_11 : decode cX8_nextHerd 11 = .ok (.aload_n 0, 1) := by decide +kernel
theorem dX8_nextHerd_12 : decode cX8_nextHerd 12 = .ok (.getfield 111, 3) := by decide +kernel
theorem dX8_nextHerd_15 : decode cX8_nextHerd 15 = .ok (.iload_n 1, 1) := by decide +kernel
theorem dX8_nextHerd_16 : decode cX8_nextHerd 16 = .ok (.if_icmp .ge 25, 3) := by decide +kernel
theorem dX8_nextHerd_19 : decode cX8_nextHerd 19 = .ok (.aload_n 0, 1) := by decide +kernel
theorem dX8_nextHerd_20 : decode cX8_nextHerd 20 = .ok (.getfield 102, 3) := by decide +kernel
theorem dX8_nextHerd_23 : decode cX8_nextHerd 23 = .ok (.iload_n 2, 1) := by decide +kernel
theorem dX8_nextHerd_24 : decode cX8_nextHerd 24 = .ok (.dup2, 1) := by decide +kernel
theorem dX8_nextHerd_25 : decode cX8_nextHerd 25 = .ok (.iaload, 1) := by decide +kernel
theorem dX8_nextHerd_26 : decode cX8_nextHerd 26 = .ok (.iconst 1, 1) := by decide +kernel
theorem dX8_nextHerd_27 : decode cX8_nextHerd 27 = .ok (.iadd, 1) := by decide +kernel
theorem dX8_nextHerd_28 : decode cX8_nextHerd 28 = .ok (.iastore, 1) := by decide +kernel
theorem dX8_nextHerd_29 : decode cX8_nextHerd 29 = .ok (.aload_n 0, 1) := by decide +kernel
theorem dX8_nextHerd_30 : decode cX8_nextHerd 30 = .ok (.dup, 1) := by decide +kernel
theorem dX8_nextHerd_31 : decode cX8_nextHerd 31 = .ok (.getfield 111, 3) := by decide +kernel
theorem dX8_nextHerd_34 : decode cX8_nextHerd 34 = .ok (.iconst 1, 1) := by decide +kernel
theorem dX8_nextHerd_35 : decode cX8_nextHerd 35 = .ok (.iadd, 1) := by decide +kernel
theorem dX8_nextHerd_36 : decode cX8_nextHerd 36 = .ok (.putfield 111, 3) := by decide +kernel
theorem dX8_nextHerd_39 : decode cX8_nextHerd 39 = .ok (.iconst 1, 1) := by decide +kernel
theorem dX8_nextHerd_40 : decode cX8_nextHerd 40 = .ok (.ireturn, 1) := by decide +kernel
theorem dX8_nextHerd_41 : decode cX8_nextHerd 41 = .ok (.aload_n 0, 1) := by decide +kernel
theorem dX8_nextHerd_42 : decode cX8_nextHerd 42 = .ok (.dup, 1) := by decide +kernel
theorem dX8_nextHerd_43 : decode cX8_nextHerd 43 = .ok (.getfield 111, 3) := by decide +kernel
theorem dX8_nextHerd_46 : decode cX8_nextHerd 46 = .ok (.aload_n 0, 1) := by decide +kernel
theorem dX8_nextHerd_47 : decode cX8_nextHerd 47 = .ok (.getfield 102, 3) := by decide +kernel
theorem dX8_nextHerd_50 : decode cX8_nextHerd 50 = .ok (.iload_n 2, 1) := by decide +kernel
theorem dX8_nextHerd_51 : decode cX8_nextHerd 51 = .ok (.iaload, 1) := by decide +kernel
theorem dX8_nextHerd_52 : decode cX8_nextHerd 52 = .ok (.isub, 1) := by decide +kernel
theorem dX8_nextHerd_53 : decode cX8_nextHerd 53 = .ok (.putfield 111, 3) := by decide +kernel
theorem dX8_nextHerd_56 : decode cX8_nextHerd 56 = .ok (.aload_n 0, 1) := by decide +kernel
theorem dX8_nextHerd_57 : decode cX8_nextHerd 57 = .ok (.getfield 102, 3) := by decide +kernel
theorem dX8_nextHerd_60 : decode cX8_nextHerd 60 = .ok (.iload_n 2, 1) := by decide +kernel
theorem dX8_nextHerd_61 : decode cX8_nextHerd 61 = .ok (.iconst 0, 1) := by decide +kernel
theorem dX8_nextHerd_62 : decode cX8_nextHerd 62 = .ok (.iastore, 1) := by decide +kernel
theorem dX8_nextHerd_63 : decode cX8_nextHerd 63 = .ok (.iinc 2 (-1), 3) := by decide +kernel
theorem dX8_nextHerd_66 : decode cX8_nextHerd 66 = .ok (.goto (-59), 3) := by decide +kernel
theorem dX8_nextHerd_69 : decode cX8_nextHerd 69 = .ok (.iconst 0, 1) := by decide +kernel
theorem dX8_nextHerd_70 : decode cX8_nextHerd 70 = .ok (.ireturn, 1) := by decide +kernel
theorem dX8_countNow_0 : decode cX8_countNow 0 = .ok (.iconst 0, 1) := by decide +kernel
theorem dX8_countNow_1 : decode cX8_countNow 1 = .ok (.istore_n 2, 1) := by decide +kernel
theorem dX8_countNow_2 : decode cX8_countNow 2 = .ok (.iconst 0, 1) := by decide +kernel
theorem dX8_countNow_3 : decode cX8_countNow 3 = .ok (.istore_n 3, 1) := by decide +kernel
theorem dX8_countNow_4 : decode cX8_countNow 4 = .ok (.iload_n 3, 1) := by decide +kernel
theorem dX8_countNow_5 : decode cX8_countNow 5 = .ok (.aload_n 0, 1) := by decide +kernel
theorem dX8_countNow_6 : decode cX8_countNow 6 = .ok (.getfield 7, 3) := by decide +kernel
theorem dX8_countNow_9 : decode cX8_countNow 9 = .ok (.if_icmp .ge 29, 3) := by decide +kernel
theorem dX8_countNow_12 : decode cX8_countNow 12 = .ok (.iload_n 2, 1) := by decide +kernel
theorem dX8_countNow_13 : decode cX8_countNow 13 = .ok (.aload_n 0, 1) := by decide +kernel
theorem dX8_countNow_14 : decode cX8_countNow 14 = .ok (.getfield 102, 3) := by decide +kernel
theorem dX8_countNow_17 : decode cX8_countNow 17 = .ok (.iload_n 3, 1) := by decide +kernel
theorem dX8_countNow_18 : decode cX8_countNow 18 = .ok (.iaload, 1) := by decide +kernel
theorem dX8_countNow_19 : decode cX8_countNow 19 = .ok (.aload_n 0, 1) := by decide +kernel
theorem dX8_countNow_20 : decode cX8_countNow 20 = .ok (.getfield 96, 3) := by decide +kernel
theorem dX8_countNow_23 : decode cX8_countNow 23 = .ok (.iconst 3, 1) := by decide +kernel
theorem dX8_countNow_24 : decode cX8_countNow 24 = .ok (.iload_n 3, 1) := by decide +kernel
theorem dX8_countNow_25 : decode cX8_countNow 25 = .ok (.imul, 1) := by decide +kernel
theorem dX8_countNow_26 : decode cX8_countNow 26 = .ok (.iload_n 1, 1) := by decide +kernel
theorem dX8_countNow_27 : decode cX8_countNow 27 = .ok (.iadd, 1) := by decide +kernel
theorem dX8_countNow_28 : decode cX8_countNow 28 = .ok (.iaload, 1) := by decide +kernel
theorem dX8_countNow_29 : decode cX8_countNow 29 = .ok (.imul, 1) := by decide +kernel
theorem dX8_countNow_30 : decode cX8_countNow 30 = .ok (.iadd, 1) := by decide +kernel
theorem dX8_countNow_31 : decode cX8_countNow 31 = .ok (.istore_n 2, 1) := by decide +kernel
theorem dX8_countNow_32 : decode cX8_countNow 32 = .ok (.iinc 3 1, 3) := by decide +kernel
theorem dX8_countNow_35 : decode cX8_countNow 35 = .ok (.goto (-31), 3) := by decide +kernel
theorem dX8_countNow_38 : decode cX8_countNow 38 = .ok (.iload_n 2, 1) := by decide +kernel
theorem dX8_countNow_39 : decode cX8_countNow 39 = .ok (.ireturn, 1) := by decide +kernel
theorem dX8_tollNow_0 : decode cX8_tollNow 0 = .ok (.iconst 0, 1) := by decide +kernel
theorem dX8_tollNow_1 : decode cX8_tollNow 1 = .ok (.istore_n 1, 1) := by decide +kernel
theorem dX8_tollNow_2 : decode cX8_tollNow 2 = .ok (.iconst 0, 1) := by decide +kernel
theorem dX8_tollNow_3 : decode cX8_tollNow 3 = .ok (.istore_n 2, 1) := by decide +kernel
theorem dX8_tollNow_4 : decode cX8_tollNow 4 = .ok (.iload_n 2, 1) := by decide +kernel
theorem dX8_tollNow_5 : decode cX8_tollNow 5 = .ok (.aload_n 0, 1) := by decide +kernel
theorem dX8_tollNow_6 : decode cX8_tollNow 6 = .ok (.getfield 7, 3) := by decide +kernel
theorem dX8_tollNow_9 : decode cX8_tollNow 9 = .ok (.if_icmp .ge 25, 3) := by decide +kernel
theorem dX8_tollNow_12 : decode cX8_tollNow 12 = .ok (.iload_n 1, 1) := by decide +kernel
theorem dX8_tollNow_13 : decode cX8_tollNow 13 = .ok (.aload_n 0, 1) := by decide +kernel
theorem dX8_tollNow_14 : decode cX8_tollNow 14 = .ok (.getfield 102, 3) := by decide +kernel
theorem dX8_tollNow_17 : decode cX8_tollNow 17 = .ok (.iload_n 2, 1) := by decide +kernel
theorem dX8_tollNow_18 : decode cX8_tollNow 18 = .ok (.iaload, 1) := by decide +kernel
theorem dX8_tollNow_19 : decode cX8_tollNow 19 = .ok (.aload_n 0, 1) := by decide +kernel
theorem dX8_tollNow_20 : decode cX8_tollNow 20 = .ok (.getfield 99, 3) := by decide +kernel
theorem dX8_tollNow_23 : decode cX8_tollNow 23 = .ok (.iload_n 2, 1) := by decide +kernel
theorem dX8_tollNow_24 : decode cX8_tollNow 24 = .ok (.iaload, 1) := by decide +kernel
theorem dX8_tollNow_25 : decode cX8_tollNow 25 = .ok (.imul, 1) := by decide +kernel
theorem dX8_tollNow_26 : decode cX8_tollNow 26 = .ok (.iadd, 1) := by decide +kernel
theorem dX8_tollNow_27 : decode cX8_tollNow 27 = .ok (.istore_n 1, 1) := by decide +kernel
theorem dX8_tollNow_28 : decode cX8_tollNow 28 = .ok (.iinc 2 1, 3) := by decide +kernel
theorem dX8_tollNow_31 : decode cX8_tollNow 31 = .ok (.goto (-27), 3) := by decide +kernel
theorem dX8_tollNow_34 : decode cX8_tollNow 34 = .ok (.iload_n 1, 1) := by decide +kernel
theorem dX8_tollNow_35 : decode cX8_tollNow 35 = .ok (.ireturn, 1) := by decide +kernel
theorem dX8_fitsNow_0 : decode cX8_fitsNow 0 = .ok (.iconst 0, 1) := by decide +kernel
theorem dX8_fitsNow_1 : decode cX8_fitsNow 1 = .ok (.istore_n 1, 1) := by decide +kernel
theorem dX8_fitsNow_2 : decode cX8_fitsNow 2 = .ok (.iload_n 1, 1) := by decide +kernel
theorem dX8_fitsNow_3 : decode cX8_fitsNow 3 = .ok (.iconst 3, 1) := by decide +kernel
theorem dX8_fitsNow_4 : decode cX8_fitsNow 4 = .ok (.if_icmp .ge 34, 3) := by decide +kernel
theorem dX8_fitsNow_7 : decode cX8_fitsNow 7 = .ok (.aload_n 0, 1) := by decide +kernel
theorem dX8_fitsNow_8 : decode cX8_fitsNow 8 = .ok (.getfield 38, 3) := by decide +kernel
theorem dX8_fitsNow_11 : decode cX8_fitsNow 11 = .ok (.iload_n 1, 1) := by decide +kernel
theorem dX8_fitsNow_12 : decode cX8_fitsNow 12 = .ok (.iaload, 1) := by decide +kernel
theorem dX8_fitsNow_13 : decode cX8_fitsNow 13 = .ok (.ifCond .lt 19, 3) := by decide +kernel
theorem dX8_fitsNow_16 : decode cX8_fitsNow 16 = .ok (.aload_n 0, 1) := by decide +kernel
theorem dX8_fitsNow_17 : decode cX8_fitsNow 17 = .ok (.iload_n 1, 1) := by decide +kernel
theorem dX8_fitsNow_18 : decode cX8_fitsNow 18 = .ok (.invokevirtual 296, 3) := by decide +kernel
theorem dX8_fitsNow_21 : decode cX8_fitsNow 21 = .ok (.aload_n 0, 1) := by decide +kernel
theorem dX8_fitsNow_22 : decode cX8_fitsNow 22 = .ok (.getfield 38, 3) := by decide +kernel
theorem dX8_fitsNow_25 : decode cX8_fitsNow 25 = .ok (.iload_n 1, 1) := by decide +kernel
theorem dX8_fitsNow_26 : decode cX8_fitsNow 26 = .ok (.iaload, 1) := by decide +kernel
theorem dX8_fitsNow_27 : decode cX8_fitsNow 27 = .ok (.if_icmp .eq 5, 3) := by decide +kernel
theorem dX8_fitsNow_30 : decode cX8_fitsNow 30 = .ok (.iconst 0, 1) := by decide +kernel
theorem dX8_fitsNow_31 : decode cX8_fitsNow 31 = .ok (.ireturn, 1) := by decide +kernel
theorem dX8_fitsNow_32 : decode cX8_fitsNow 32 = .ok (.iinc 1 1, 3) := by decide +kernel
theorem dX8_fitsNow_35 : decode cX8_fitsNow 35 = .ok (.goto (-33), 3) := by decide +kernel
theorem dX8_fitsNow_38 : decode cX8_fitsNow 38 = .ok (.iconst 1, 1) := by decide +kernel
theorem dX8_fitsNow_39 : decode cX8_fitsNow 39 = .ok (.ireturn, 1) := by decide +kernel
theorem dX8_takeNow_0 : decode cX8_takeNow 0 = .ok (.aload_n 0, 1) := by decide +kernel
theorem dX8_takeNow_1 : decode cX8_takeNow 1 = .ok (.invokevirtual 299, 3) := by decide +kernel
theorem dX8_takeNow_4 : decode cX8_takeNow 4 = .ok (.istore_n 1, 1) := by decide +kernel
theorem dX8_takeNow_5 : decode cX8_takeNow 5 = .ok (.aload_n 0, 1) := by decide +kernel
theorem dX8_takeNow_6 : decode cX8_takeNow 6 = .ok (.getfield 114, 3) := by decide +kernel
theorem dX8_takeNow_9 : decode cX8_takeNow 9 = .ok (.ifCond .eq 11, 3) := by decide +kernel
theorem dX8_takeNow_12 : decode cX8_takeNow 12 = .ok (.iload_n 1, 1) := by decide +kernel
theorem dX8_takeNow_13 : decode cX8_takeNow 13 = .ok (.aload_n 0, 1) := by decide +kernel
theorem dX8_takeNow_14 : decode cX8_takeNow 14 = .ok (.getfield 117, 3) := by decide +kernel
theorem dX8_takeNow_17 : decode cX8_takeNow 17 = .ok (.if_icmp .ge 33, 3) := by decide +kernel
theorem dX8_takeNow_20 : decode cX8_takeNow 20 = .ok (.aload_n 0, 1) := by decide +kernel
theorem dX8_takeNow_21 : decode cX8_takeNow 21 = .ok (.iload_n 1, 1) := by decide +kernel
theorem dX8_takeNow_22 : decode cX8_takeNow 22 = .ok (.putfield 117, 3) := by decide +kernel
theorem dX8_takeNow_25 : decode cX8_takeNow 25 = .ok (.iconst 0, 1) := by decide +kernel
theorem dX8_takeNow_26 : decode cX8_takeNow 26 = .ok (.istore_n 2, 1) := by decide +kernel
theorem dX8_takeNow_27 : decode cX8_takeNow 27 = .ok (.iload_n 2, 1) := by decide +kernel
theorem dX8_takeNow_28 : decode cX8_takeNow 28 = .ok (.iconst 5, 1) := by decide +kernel
theorem dX8_takeNow_29 : decode cX8_takeNow 29 = .ok (.if_icmp .ge 21, 3) := by decide +kernel
theorem dX8_takeNow_32 : decode cX8_takeNow 32 = .ok (.aload_n 0, 1) := by decide +kernel
theorem dX8_takeNow_33 : decode cX8_takeNow 33 = .ok (.getfield 105, 3) := by decide +kernel
theorem dX8_takeNow_36 : decode cX8_takeNow 36 = .ok (.iload_n 2, 1) := by decide +kernel
theorem dX8_takeNow_37 : decode cX8_takeNow 37 = .ok (.aload_n 0, 1) := by decide +kernel
theorem dX8_takeNow_38 : decode cX8_takeNow 38 = .ok (.getfield 102, 3) := by decide +kernel
theorem dX8_takeNow_41 : decode cX8_takeNow 41 = .ok (.iload_n 2, 1) := by decide +kernel
theorem dX8_takeNow_42 : decode cX8_takeNow 42 = .ok (.iaload, 1) := by decide +kernel
theorem dX8_takeNow_43 : decode cX8_takeNow 43 = .ok (.iastore, 1) := by decide +kernel
theorem dX8_takeNow_44 : decode cX8_takeNow 44 = .ok (.iinc 2 1, 3) := by decide +kernel
theorem dX8_takeNow_47 : decode cX8_takeNow 47 = .ok (.goto (-20), 3) := by decide +kernel
theorem dX8_takeNow_50 : decode cX8_takeNow 50 = .ok (.aload_n 0, 1) := by decide +kernel
theorem dX8_takeNow_51 : decode cX8_takeNow 51 = .ok (.aload_n 0, 1) := by decide +kernel
theorem dX8_takeNow_52 : decode cX8_takeNow 52 = .ok (.getfield 114, 3) := by decide +kernel
theorem dX8_takeNow_55 : decode cX8_takeNow 55 = .ok (.ifCond .eq 11, 3) := by decide +kernel
theorem dX8_takeNow_58 : decode cX8_takeNow 58 = .ok (.iload_n 1, 1) := by decide +kernel
theorem dX8_takeNow_59 : decode cX8_takeNow 59 = .ok (.aload_n 0, 1) := by decide +kernel
theorem dX8_takeNow_60 : decode cX8_takeNow 60 = .ok (.getfield 120, 3) := by decide +kernel
theorem dX8_takeNow_63 : decode cX8_takeNow 63 = .ok (.if_icmp .le 7, 3) := by decide +kernel
theorem dX8_takeNow_66 : decode cX8_takeNow 66 = .ok (.iload_n 1, 1) := by decide +kernel
theorem dX8_takeNow_67 : decode cX8_takeNow 67 = .ok (.goto 7, 3) := by decide +kernel
theorem dX8_takeNow_70 : decode cX8_takeNow 70 = .ok (.aload_n 0, 1) := by decide +kernel
theorem dX8_takeNow_71 : decode cX8_takeNow 71 = .ok (.getfield 120, 3) := by decide +kernel
theorem dX8_takeNow_74 : decode cX8_takeNow 74 = .ok (.putfield 120, 3) := by decide +kernel
theorem dX8_takeNow_77 : decode cX8_takeNow 77 = .ok (.aload_n 0, 1) := by decide +kernel
theorem dX8_takeNow_78 : decode cX8_takeNow 78 = .ok (.dup, 1) := by decide +kernel
theorem dX8_takeNow_79 : decode cX8_takeNow 79 = .ok (.getfield 114, 3) := by decide +kernel
theorem dX8_takeNow_82 : decode cX8_takeNow 82 = .ok (.iconst 1, 1) := by decide +kernel
theorem dX8_takeNow_83 : decode cX8_takeNow 83 = .ok (.iadd, 1) := by decide +kernel
theorem dX8_takeNow_84 : decode cX8_takeNow 84 = .ok (.putfield 114, 3) := by decide +kernel
theorem dX8_takeNow_87 : decode cX8_takeNow 87 = .ok (.iconst 0, 1) := by decide +kernel
theorem dX8_takeNow_88 : decode cX8_takeNow 88 = .ok (.istore_n 2, 1) := by decide +kernel
theorem dX8_takeNow_89 : decode cX8_takeNow 89 = .ok (.iload_n 2, 1) := by decide +kernel
theorem dX8_takeNow_90 : decode cX8_takeNow 90 = .ok (.iconst 5, 1) := by decide +kernel
theorem dX8_takeNow_91 : decode cX8_takeNow 91 = .ok (.if_icmp .ge 24, 3) := by decide +kernel
theorem dX8_takeNow_94 : decode cX8_takeNow 94 = .ok (.aload_n 0, 1) := by decide +kernel
theorem dX8_takeNow_95 : decode cX8_takeNow 95 = .ok (.getfield 108, 3) := by decide +kernel
theorem dX8_takeNow_98 : decode cX8_takeNow 98 = .ok (.iload_n 2, 1) := by decide +kernel
theorem dX8_takeNow_99 : decode cX8_takeNow 99 = .ok (.dup2, 1) := by decide +kernel
theorem dX8_takeNow_100 : decode cX8_takeNow 100 = .ok (.iaload, 1) := by decide +kernel
theorem dX8_takeNow_101 : decode cX8_takeNow 101 = .ok (.aload_n 0, 1) := by decide +kernel
theorem dX8_takeNow_102 : decode cX8_takeNow 102 = .ok (.getfield 102, 3) := by decide +kernel
theorem dX8_takeNow_105 : decode cX8_takeNow 105 = .ok (.iload_n 2, 1) := by decide +kernel
theorem dX8_takeNow_106 : decode cX8_takeNow 106 = .ok (.iaload, 1) := by decide +kernel
theorem dX8_takeNow_107 : decode cX8_takeNow 107 = .ok (.iadd, 1) := by decide +kernel
theorem dX8_takeNow_108 : decode cX8_takeNow 108 = .ok (.iastore, 1) := by decide +kernel
theorem dX8_takeNow_109 : decode cX8_takeNow 109 = .ok (.iinc 2 1, 3) := by decide +kernel
theorem dX8_takeNow_112 : decode cX8_takeNow 112 = .ok (.goto (-23), 3) := by decide +kernel
theorem dX8_takeNow_115 : decode cX8_takeNow 115 = .ok (.return_, 1) := by decide +kernel
theorem dX8_layFits_0 : decode cX8_layFits 0 = .ok (.aload_n 0, 1) := by decide +kernel
theorem dX8_layFits_1 : decode cX8_layFits 1 = .ok (.invokevirtual 278, 3) := by decide +kernel
theorem dX8_layFits_4 : decode cX8_layFits 4 = .ok (.aload_n 0, 1) := by decide +kernel
theorem dX8_layFits_5 : decode cX8_layFits 5 = .ok (.iconst 0, 1) := by decide +kernel
theorem dX8_layFits_6 : decode cX8_layFits 6 = .ok (.putfield 114, 3) := by decide +kernel
theorem dX8_layFits_9 : decode cX8_layFits 9 = .ok (.iconst 0, 1) := by decide +kernel
theorem dX8_layFits_10 : decode cX8_layFits 10 = .ok (.istore_n 1, 1) := by decide +kernel
theorem dX8_layFits_11 : decode cX8_layFits 11 = .ok (.iload_n 1, 1) := by decide +kernel
theorem dX8_layFits_12 : decode cX8_layFits 12 = .ok (.iconst 5, 1) := by decide +kernel
theorem dX8_layFits_13 : decode cX8_layFits 13 = .ok (.if_icmp .ge 16, 3) := by decide +kernel
theorem dX8_layFits_16 : decode cX8_layFits 16 = .ok (.aload_n 0, 1) := by decide +kernel
theorem dX8_layFits_17 : decode cX8_layFits 17 = .ok (.getfield 108, 3) := by decide +kernel
theorem dX8_layFits_20 : decode cX8_layFits 20 = .ok (.iload_n 1, 1) := by decide +kernel
theorem dX8_layFits_21 : decode cX8_layFits 21 = .ok (.iconst 0, 1) := by decide +kernel
theorem dX8_layFits_22 : decode cX8_layFits 22 = .ok (.iastore, 1) := by decide +kernel
theorem dX8_layFits_23 : decode cX8_layFits 23 = .ok (.iinc 1 1, 3) := by decide +kernel
theorem dX8_layFits_26 : decode cX8_layFits 26 = .ok (.goto (-15), 3) := by decide +kernel
theorem dX8_layFits_29 : decode cX8_layFits 29 = .ok (.aload_n 0, 1) := by decide +kernel
theorem dX8_layFits_30 : decode cX8_layFits 30 = .ok (.invokevirtual 302, 3) := by decide +kernel
theorem dX8_layFits_33 : decode cX8_layFits 33 = .ok (.iconst 1, 1) := by decide +kernel
theorem dX8_layFits_34 : decode cX8_layFits 34 = .ok (.istore_n 1, 1) := by decide +kernel
theorem dX8_layFits_35 : decode cX8_layFits 35 = .ok (.iload_n 1, 1) := by decide +kernel
theorem dX8_layFits_36 : decode cX8_layFits 36 = .ok (.ifCond .eq 26, 3) := by decide +kernel
theorem dX8_layFits_39 : decode cX8_layFits 39 = .ok (.aload_n 0, 1) := by decide +kernel
theorem dX8_layFits_40 : decode cX8_layFits 40 = .ok (.invokevirtual 305, 3) := by decide +kernel
theorem dX8_layFits_43 : decode cX8_layFits 43 = .ok (.ifCond .eq 7, 3) := by decide +kernel
theorem dX8_layFits_46 : decode cX8_layFits 46 = .ok (.aload_n 0, 1) := by decide +kernel
theorem dX8_layFits_47 : decode cX8_layFits 47 = .ok (.invokevirtual 308, 3) := by decide +kernel
theorem dX8_layFits_50 : decode cX8_layFits 50 = .ok (.aload_n 0, 1) := by decide +kernel
theorem dX8_layFits_51 : decode cX8_layFits 51 = .ok (.aload_n 0, 1) := by decide +kernel
theorem dX8_layFits_52 : decode cX8_layFits 52 = .ok (.invokevirtual 287, 3) := by decide +kernel
theorem dX8_layFits_55 : decode cX8_layFits 55 = .ok (.invokevirtual 311, 3) := by decide +kernel
theorem dX8_layFits_58 : decode cX8_layFits 58 = .ok (.istore_n 1, 1) := by decide +kernel
theorem dX8_layFits_59 : decode cX8_layFits 59 = .ok (.goto (-24), 3) := by decide +kernel
theorem dX8_layFits_62 : decode cX8_layFits 62 = .ok (.return_, 1) := by decide +kernel
theorem dX8_fits_0 : decode cX8_fits 0 = .ok (.aload_n 0, 1) := by decide +kernel
theorem dX8_fits_1 : decode cX8_fits 1 = .ok (.iload_n 1, 1) := by decide +kernel
theorem dX8_fits_2 : decode cX8_fits 2 = .ok (.iconst 0, 1) := by decide +kernel
theorem dX8_fits_3 : decode cX8_fits 3 = .ok (.iconst 2, 1) := by decide +kernel
theorem dX8_fits_4 : decode cX8_fits 4 = .ok (.invokevirtual 200, 3) := by decide +kernel
theorem dX8_fits_7 : decode cX8_fits 7 = .ok (.ifCond .ne 24, 3) := by decide +kernel
theorem dX8_fits_10 : decode cX8_fits 10 = .ok (.aload_n 0, 1) := by decide +kernel
theorem dX8_fits_11 : decode cX8_fits 11 = .ok (.iload_n 1, 1) := by decide +kernel
theorem dX8_fits_12 : decode cX8_fits 12 = .ok (.bipush 10, 2) := by decide +kernel
theorem dX8_fits_14 : decode cX8_fits 14 = .ok (.bipush 9, 2) := by decide +kernel
theorem dX8_fits_16 : decode cX8_fits 16 = .ok (.aload_n 0, 1) := by decide +kernel
theorem dX8_fits_17 : decode cX8_fits 17 = .ok (.getfield 7, 3) := by decide +kernel
theorem dX8_fits_20 : decode cX8_fits 20 = .ok (.iadd, 1) := by decide +kernel
theorem dX8_fits_21 : decode cX8_fits 21 = .ok (.invokevirtual 200, 3) := by decide +kernel
theorem dX8_fits_24 : decode cX8_fits 24 = .ok (.ifCond .ne 7, 3) := by decide +kernel
theorem dX8_fits_27 : decode cX8_fits 27 = .ok (.sipush (-1001), 3) := by decide +kernel
theorem dX8_fits_30 : decode cX8_fits 30 = .ok (.ireturn, 1) := by decide +kernel
theorem dX8_fits_31 : decode cX8_fits 31 = .ok (.aload_n 0, 1) := by decide +kernel
theorem dX8_fits_32 : decode cX8_fits 32 = .ok (.invokevirtual 314, 3) := by decide +kernel
theorem dX8_fits_35 : decode cX8_fits 35 = .ok (.iload_n 1, 1) := by decide +kernel
theorem dX8_fits_36 : decode cX8_fits 36 = .ok (.ifCond .ne 8, 3) := by decide +kernel
theorem dX8_fits_39 : decode cX8_fits 39 = .ok (.aload_n 0, 1) := by decide +kernel
theorem dX8_fits_40 : decode cX8_fits 40 = .ok (.getfield 114, 3) := by decide +kernel
theorem dX8_fits_43 : decode cX8_fits 43 = .ok (.ireturn, 1) := by decide +kernel
theorem dX8_fits_44 : decode cX8_fits 44 = .ok (.aload_n 0, 1) := by decide +kernel
theorem dX8_fits_45 : decode cX8_fits 45 = .ok (.getfield 114, 3) := by decide +kernel
theorem dX8_fits_48 : decode cX8_fits 48 = .ok (.ifCond .ne 8, 3) := by decide +kernel
theorem dX8_fits_51 : decode cX8_fits 51 = .ok (.bipush (-5), 2) := by decide +kernel
theorem dX8_fits_53 : decode cX8_fits 53 = .ok (.goto 36, 3) := by decide +kernel
theorem dX8_fits_56 : decode cX8_fits 56 = .ok (.iload_n 1, 1) := by decide +kernel
theorem dX8_fits_57 : decode cX8_fits 57 = .ok (.iconst 1, 1) := by decide +kernel
theorem dX8_fits_58 : decode cX8_fits 58 = .ok (.if_icmp .ne 10, 3) := by decide +kernel
theorem dX8_fits_61 : decode cX8_fits 61 = .ok (.aload_n 0, 1) := by decide +kernel
theorem dX8_fits_62 : decode cX8_fits 62 = .ok (.getfield 117, 3) := by decide +kernel
theorem dX8_fits_65 : decode cX8_fits 65 = .ok (.goto 24, 3) := by decide +kernel
theorem dX8_fits_68 : decode cX8_fits 68 = .ok (.iload_n 1, 1) := by decide +kernel
theorem dX8_fits_69 : decode cX8_fits 69 = .ok (.iconst 2, 1) := by decide +kernel
theorem dX8_fits_70 : decode cX8_fits 70 = .ok (.if_icmp .ne 10, 3) := by decide +kernel
theorem dX8_fits_73 : decode cX8_fits 73 = .ok (.aload_n 0, 1) := by decide +kernel
theorem dX8_fits_74 : decode cX8_fits 74 = .ok (.getfield 120, 3) := by decide +kernel
theorem dX8_fits_77 : decode cX8_fits 77 = .ok (.goto 12, 3) := by decide +kernel
theorem dX8_fits_80 : decode cX8_fits 80 = .ok (.aload_n 0, 1) := by decide +kernel
theorem dX8_fits_81 : decode cX8_fits 81 = .ok (.getfield 105, 3) := by decide +kernel
theorem dX8_fits_84 : decode cX8_fits 84 = .ok (.iload_n 1, 1) := by decide +kernel
theorem dX8_fits_85 : decode cX8_fits 85 = .ok (.bipush 10, 2) := by decide +kernel
theorem dX8_fits_87 : decode cX8_fits 87 = .ok (.isub, 1) := by decide +kernel
theorem dX8_fits_88 : decode cX8_fits 88 = .ok (.iaload, 1) := by decide +kernel
theorem dX8_fits_89 : decode cX8_fits 89 = .ok (.ireturn, 1) := by decide +kernel
theorem dX8_divisor_0 : decode cX8_divisor 0 = .ok (.iload_n 1, 1) := by decide +kernel
theorem dX8_divisor_1 : decode cX8_divisor 1 = .ok (.istore_n 3, 1) := by decide +kernel
theorem dX8_divisor_2 : decode cX8_divisor 2 = .ok (.iload_n 2, 1) := by decide +kernel
theorem dX8_divisor_3 : decode cX8_divisor 3 = .ok (.istore 4, 2) := by decide +kernel
theorem dX8_divisor_5 : decode cX8_divisor 5 = .ok (.iload 4, 2) := by decide +kernel
theorem dX8_divisor_7 : decode cX8_divisor 7 = .ok (.ifCond .eq 19, 3) := by decide +kernel
theorem dX8_divisor_10 : decode cX8_divisor 10 = .ok (.iload_n 3, 1) := by decide +kernel
theorem dX8_divisor_11 : decode cX8_divisor 11 = .ok (.iload 4, 2) := by decide +kernel
theorem dX8_divisor_13 : decode cX8_divisor 13 = .ok (.irem, 1) := by decide +kernel
theorem dX8_divisor_14 : decode cX8_divisor 14 = .ok (.istore 5, 2) := by decide +kernel
theorem dX8_divisor_16 : decode cX8_divisor 16 = .ok (.iload 4, 2) := by decide +kernel
theorem dX8_divisor_18 : decode cX8_divisor 18 = .ok (.istore_n 3, 1) := by decide +kernel
theorem dX8_divisor_19 : decode cX8_divisor 19 = .ok (.iload 5, 2) := by decide +kernel
theorem dX8_divisor_21 : decode cX8_divisor 21 = .ok (.istore 4, 2) := by decide +kernel
theorem dX8_divisor_23 : decode cX8_divisor 23 = .ok (.goto (-18), 3) := by decide +kernel
theorem dX8_divisor_26 : decode cX8_divisor 26 = .ok (.iload_n 3, 1) := by decide +kernel
theorem dX8_divisor_27 : decode cX8_divisor 27 = .ok (.ireturn, 1) := by decide +kernel
theorem dX8_bars_0 : decode cX8_bars 0 = .ok (.aload_n 0, 1) := by decide +kernel
theorem dX8_bars_1 : decode cX8_bars 1 = .ok (.invokevirtual 278, 3) := by decide +kernel
theorem dX8_bars_4 : decode cX8_bars 4 = .ok (.iconst 2, 1) := by decide +kernel
theorem dX8_bars_5 : decode cX8_bars 5 = .ok (.istore_n 1, 1) := by decide +kernel
theorem dX8_bars_6 : decode cX8_bars 6 = .ok (.iload_n 1, 1) := by decide +kernel
theorem dX8_bars_7 : decode cX8_bars 7 = .ok (.bipush 31, 2) := by decide +kernel
theorem dX8_bars_9 : decode cX8_bars 9 = .ok (.if_icmp .ge 86, 3) := by decide +kernel
theorem dX8_bars_12 : decode cX8_bars 12 = .ok (.iconst 0, 1) := by decide +kernel
theorem dX8_bars_13 : decode cX8_bars 13 = .ok (.istore_n 2, 1) := by decide +kernel
theorem dX8_bars_14 : decode cX8_bars 14 = .ok (.iload_n 2, 1) := by decide +kernel
theorem dX8_bars_15 : decode cX8_bars 15 = .ok (.iconst 3, 1) := by decide +kernel
theorem dX8_bars_16 : decode cX8_bars 16 = .ok (.if_icmp .ge 73, 3) := by decide +kernel
theorem dX8_bars_19 : decode cX8_bars 19 = .ok (.iload_n 1, 1) := by decide +kernel
theorem dX8_bars_20 : decode cX8_bars 20 = .ok (.istore_n 3, 1) := by decide +kernel
theorem dX8_bars_21 : decode cX8_bars 21 = .ok (.iconst 0, 1) := by decide +kernel
theorem dX8_bars_22 : decode cX8_bars 22 = .ok (.istore 4, 2) := by decide +kernel
theorem dX8_bars_24 : decode cX8_bars 24 = .ok (.iload 4, 2) := by decide +kernel
theorem dX8_bars_26 : decode cX8_bars 26 = .ok (.aload_n 0, 1) := by decide +kernel
theorem dX8_bars_27 : decode cX8_bars 27 = .ok (.getfield 7, 3) := by decide +kernel
theorem dX8_bars_30 : decode cX8_bars 30 = .ok (.if_icmp .ge 26, 3) := by decide +kernel
theorem dX8_bars_33 : decode cX8_bars 33 = .ok (.aload_n 0, 1) := by decide +kernel
theorem dX8_bars_34 : decode cX8_bars 34 = .ok (.iload_n 3, 1) := by decide +kernel
theorem dX8_bars_35 : decode cX8_bars 35 = .ok (.aload_n 0, 1) := by decide +kernel
theorem dX8_bars_36 : decode cX8_bars 36 = .ok (.getfield 96, 3) := by decide +kernel
theorem dX8_bars_39 : decode cX8_bars 39 = .ok (.iconst 3, 1) := by decide +kernel
theorem dX8_bars_40 : decode cX8_bars 40 = .ok (.iload 4, 2) := by decide +kernel
theorem dX8_bars_42 : decode cX8_bars 42 = .ok (.imul, 1) := by decide +kernel
theorem dX8_bars_43 : decode cX8_bars 43 = .ok (.iload_n 2, 1) := by decide +kernel
theorem dX8_bars_44 : decode cX8_bars 44 = .ok (.iadd, 1) := by decide +kernel
theorem dX8_bars_45 : decode cX8_bars 45 = .ok (.iaload, 1) := by decide +kernel
theorem dX8_bars_46 : decode cX8_bars 46 = .ok (.invokevirtual 317, 3) := by decide +kernel
theorem dX8_bars_49 : decode cX8_bars 49 = .ok (.istore_n 3, 1) := by decide +kernel
theorem dX8_bars_50 : decode cX8_bars 50 = .ok (.iinc 4 1, 3) := by decide +kernel
theorem dX8_bars_53 : decode cX8_bars 53 = .ok (.goto (-29), 3) := by decide +kernel
theorem dX8_bars_56 : decode cX8_bars 56 = .ok (.aload_n 0, 1) := by decide +kernel
theorem dX8_bars_57 : decode cX8_bars 57 = .ok (.getfield 38, 3) := by decide +kernel
theorem dX8_bars_60 : decode cX8_bars 60 = .ok (.iload_n 2, 1) := by decide +kernel
theorem dX8_bars_61 : decode cX8_bars 61 = .ok (.iaload, 1) := by decide +kernel
theorem dX8_bars_62 : decode cX8_bars 62 = .ok (.ifCond .lt 21, 3) := by decide +kernel
theorem dX8_bars_65 : decode cX8_bars 65 = .ok (.aload_n 0, 1) := by decide +kernel
theorem dX8_bars_66 : decode cX8_bars 66 = .ok (.getfield 38, 3) := by decide +kernel
theorem dX8_bars_69 : decode cX8_bars 69 = .ok (.iload_n 2, 1) := by decide +kernel
theorem dX8_bars_70 : decode cX8_bars 70 = .ok (.iaload, 1) := by decide +kernel
theorem dX8_bars_71 : decode cX8_bars 71 = .ok (.iload_n 3, 1) := by decide +kernel
theorem dX8_bars_72 : decode cX8_bars 72 = .ok (.irem, 1) := by decide +kernel
theorem dX8_bars_73 : decode cX8_bars 73 = .ok (.ifCond .eq 10, 3) := by decide +kernel
theorem dX8_bars_76 : decode cX8_bars 76 = .ok (.bipush 100, 2) := by decide +kernel
theorem dX8_bars_78 : decode cX8_bars 78 = .ok (.iload_n 1, 1) := by decide +kernel
theorem dX8_bars_79 : decode cX8_bars 79 = .ok (.imul, 1) := by decide +kernel
theorem dX8_bars_80 : decode cX8_bars 80 = .ok (.iload_n 2, 1) := by decide +kernel
theorem dX8_bars_81 : decode cX8_bars 81 = .ok (.iadd, 1) := by decide +kernel
theorem dX8_bars_82 : decode cX8_bars 82 = .ok (.ireturn, 1) := by decide +kernel
theorem dX8_bars_83 : decode cX8_bars 83 = .ok (.iinc 2 1, 3) := by decide +kernel
theorem dX8_bars_86 : decode cX8_bars 86 = .ok (.goto (-72), 3) := by decide +kernel
theorem dX8_bars_89 : decode cX8_bars 89 = .ok (.iinc 1 1, 3) := by decide +kernel
theorem dX8_bars_92 : decode cX8_bars 92 = .ok (.goto (-86), 3) := by decide +kernel
theorem dX8_bars_95 : decode cX8_bars 95 = .ok (.bipush (-5), 2) := by decide +kernel
theorem dX8_bars_97 : decode cX8_bars 97 = .ok (.ireturn, 1) := by decide +kernel
theorem dX8_hole_0 : decode cX8_hole 0 = .ok (.aload_n 0, 1) := by decide +kernel
theorem dX8_hole_1 : decode cX8_hole 1 = .ok (.iload_n 1, 1) := by decide +kernel
theorem dX8_hole_2 : decode cX8_hole 2 = .ok (.iconst 0, 1) := by decide +kernel
theorem dX8_hole_3 : decode cX8_hole 3 = .ok (.iconst 1, 1) := by decide +kernel
theorem dX8_hole_4 : decode cX8_hole 4 = .ok (.invokevirtual 200, 3) := by decide +kernel
theorem dX8_hole_7 : decode cX8_hole 7 = .ok (.ifCond .ne 5, 3) := by decide +kernel
theorem dX8_hole_10 : decode cX8_hole 10 = .ok (.iconst (-1), 1) := by decide +kernel
theorem dX8_hole_11 : decode cX8_hole 11 = .ok (.ireturn, 1) := by decide +kernel
theorem dX8_hole_12 : decode cX8_hole 12 = .ok (.bipush (-5), 2) := by decide +kernel
theorem dX8_hole_14 : decode cX8_hole 14 = .ok (.istore_n 2, 1) := by decide +kernel
theorem dX8_hole_15 : decode cX8_hole 15 = .ok (.iconst 0, 1) := by decide +kernel
theorem dX8_hole_16 : decode cX8_hole 16 = .ok (.istore_n 3, 1) := by decide +kernel
theorem dX8_hole_17 : decode cX8_hole 17 = .ok (.iconst 0, 1) := by decide +kernel
theorem dX8_hole_18 : decode cX8_hole 18 = .ok (.istore 4, 2) := by decide +kernel
theorem dX8_hole_20 : decode cX8_hole 20 = .ok (.iload 4, 2) := by decide +kernel
theorem dX8_hole_22 : decode cX8_hole 22 = .ok (.iconst 3, 1) := by decide +kernel
theorem dX8_hole_23 : decode cX8_hole 23 = .ok (.if_icmp .ge 74, 3) := by decide +kernel
theorem dX8_hole_26 : decode cX8_hole 26 = .ok (.aload_n 0, 1) := by decide +kernel
theorem dX8_hole_27 : decode cX8_hole 27 = .ok (.getfield 38, 3) := by decide +kernel
theorem dX8_hole_30 : decode cX8_hole 30 = .ok (.iload 4, 2) := by decide +kernel
theorem dX8_hole_32 : decode cX8_hole 32 = .ok (.iaload, 1) := by decide +kernel
theorem dX8_hole_33 : decode cX8_hole 33 = .ok (.ifCond .lt 6, 3) := by decide +kernel
theorem dX8_hole_36 : decode cX8_hole 36 = .ok (.goto 55, 3) := by decide +kernel
theorem dX8_hole_39 : decode cX8_hole 39 = .ok (.aload_n 0, 1) := by decide +kernel
theorem dX8_hole_40 : decode cX8_hole 40 = .ok (.invokevirtual 278, 3) := by decide +kernel
theorem dX8_hole_43 : decode cX8_hole 43 = .ok (.aload_n 0, 1) := by decide +kernel
theorem dX8_hole_44 : decode cX8_hole 44 = .ok (.getfield 38, 3) := by decide +kernel
theorem dX8_hole_47 : decode cX8_hole 47 = .ok (.iload 4, 2) := by decide +kernel
theorem dX8_hole_49 : decode cX8_hole 49 = .ok (.aload_n 0, 1) := by decide +kernel
theorem dX8_hole_50 : decode cX8_hole 50 = .ok (.iload 4, 2) := by decide +kernel
theorem dX8_hole_52 : decode cX8_hole 52 = .ok (.invokevirtual 281, 3) := by decide +kernel
theorem dX8_hole_55 : decode cX8_hole 55 = .ok (.iastore, 1) := by decide +kernel
theorem dX8_hole_56 : decode cX8_hole 56 = .ok (.aload_n 0, 1) := by decide +kernel
theorem dX8_hole_57 : decode cX8_hole 57 = .ok (.invokevirtual 314, 3) := by decide +kernel
theorem dX8_hole_60 : decode cX8_hole 60 = .ok (.aload_n 0, 1) := by decide +kernel
theorem dX8_hole_61 : decode cX8_hole 61 = .ok (.getfield 38, 3) := by decide +kernel
theorem dX8_hole_64 : decode cX8_hole 64 = .ok (.iload 4, 2) := by decide +kernel
theorem dX8_hole_66 : decode cX8_hole 66 = .ok (.iconst (-1), 1) := by decide +kernel
theorem dX8_hole_67 : decode cX8_hole 67 = .ok (.iastore, 1) := by decide +kernel
theorem dX8_hole_68 : decode cX8_hole 68 = .ok (.iload_n 2, 1) := by decide +kernel
theorem dX8_hole_69 : decode cX8_hole 69 = .ok (.ifCond .lt 14, 3) := by decide +kernel
theorem dX8_hole_72 : decode cX8_hole 72 = .ok (.aload_n 0, 1) := by decide +kernel
theorem dX8_hole_73 : decode cX8_hole 73 = .ok (.getfield 114, 3) := by decide +kernel
theorem dX8_hole_76 : decode cX8_hole 76 = .ok (.iload_n 3, 1) := by decide +kernel
theorem dX8_hole_77 : decode cX8_hole 77 = .ok (.if_icmp .lt 6, 3) := by decide +kernel
theorem dX8_hole_80 : decode cX8_hole 80 = .ok (.goto 11, 3) := by decide +kernel
theorem dX8_hole_83 : decode cX8_hole 83 = .ok (.iload 4, 2) := by decide +kernel
theorem dX8_hole_85 : decode cX8_hole 85 = .ok (.istore_n 2, 1) := by decide +kernel
theorem dX8_hole_86 : decode cX8_hole 86 = .ok (.aload_n 0, 1) := by decide +kernel
theorem dX8_hole_87 : decode cX8_hole 87 = .ok (.getfield 114, 3) := by decide +kernel
theorem dX8_hole_90 : decode cX8_hole 90 = .ok (.istore_n 3, 1) := by decide +kernel
theorem dX8_hole_91 : decode cX8_hole 91 = .ok (.iinc 4 1, 3) := by decide +kernel
theorem dX8_hole_94 : decode cX8_hole 94 = .ok (.goto (-74), 3) := by decide +kernel
theorem dX8_hole_97 : decode cX8_hole 97 = .ok (.iload_n 2, 1) := by decide +kernel
theorem dX8_hole_98 : decode cX8_hole 98 = .ok (.ifCond .lt 7, 3) := by decide +kernel
theorem dX8_hole_101 : decode cX8_hole 101 = .ok (.iload_n 1, 1) := by decide +kernel
theorem dX8_hole_102 : decode cX8_hole 102 = .ok (.ifCond .ne 7, 3) := by decide +kernel
theorem dX8_hole_105 : decode cX8_hole 105 = .ok (.iload_n 2, 1) := by decide +kernel
theorem dX8_hole_106 : decode cX8_hole 106 = .ok (.goto 4, 3) := by decide +kernel
theorem dX8_hole_109 : decode cX8_hole 109 = .ok (.iload_n 3, 1) := by decide +kernel
theorem dX8_hole_110 : decode cX8_hole 110 = .ok (.ireturn, 1) := by decide +kernel
theorem dX8_isAsked_0 : decode cX8_isAsked 0 = .ok (.iconst 0, 1) := by decide +kernel
theorem dX8_isAsked_1 : decode cX8_isAsked 1 = .ok (.istore_n 1, 1) := by decide +kernel
theorem dX8_isAsked_2 : decode cX8_isAsked 2 = .ok (.iload_n 1, 1) := by decide +kernel
theorem dX8_isAsked_3 : decode cX8_isAsked 3 = .ok (.iconst 3, 1) := by decide +kernel
theorem dX8_isAsked_4 : decode cX8_isAsked 4 = .ok (.if_icmp .ge 25, 3) := by decide +kernel
theorem dX8_isAsked_7 : decode cX8_isAsked 7 = .ok (.aload_n 0, 1) := by decide +kernel
theorem dX8_isAsked_8 : decode cX8_isAsked 8 = .ok (.iload_n 1, 1) := by decide +kernel
theorem dX8_isAsked_9 : decode cX8_isAsked 9 = .ok (.invokevirtual 296, 3) := by decide +kernel
theorem dX8_isAsked_12 : decode cX8_isAsked 12 = .ok (.aload_n 0, 1) := by decide +kernel
theorem dX8_isAsked_13 : decode cX8_isAsked 13 = .ok (.getfield 123, 3) := by decide +kernel
theorem dX8_isAsked_16 : decode cX8_isAsked 16 = .ok (.iload_n 1, 1) := by decide +kernel
theorem dX8_isAsked_17 : decode cX8_isAsked 17 = .ok (.iaload, 1) := by decide +kernel
theorem dX8_isAsked_18 : decode cX8_isAsked 18 = .ok (.if_icmp .eq 5, 3) := by decide +kernel
theorem dX8_isAsked_21 : decode cX8_isAsked 21 = .ok (.iconst 0, 1) := by decide +kernel
theorem dX8_isAsked_22 : decode cX8_isAsked 22 = .ok (.ireturn, 1) := by decide +kernel
theorem dX8_isAsked_23 : decode cX8_isAsked 23 = .ok (.iinc 1 1, 3) := by decide +kernel
theorem dX8_isAsked_26 : decode cX8_isAsked 26 = .ok (.goto (-24), 3) := by decide +kernel
theorem dX8_isAsked_29 : decode cX8_isAsked 29 = .ok (.iconst 1, 1) := by decide +kernel
theorem dX8_isAsked_30 : decode cX8_isAsked 30 = .ok (.ireturn, 1) := by decide +kernel
theorem dX8_layAlike_0 : decode cX8_layAlike 0 = .ok (.iconst 0, 1) := by decide +kernel
theorem dX8_layAlike_1 : decode cX8_layAlike 1 = .ok (.istore_n 2, 1) := by decide +kernel
theorem dX8_layAlike_2 : decode cX8_layAlike 2 = .ok (.aload_n 0, 1) := by decide +kernel
theorem dX8_layAlike_3 : decode cX8_layAlike 3 = .ok (.invokevirtual 302, 3) := by decide +kernel
theorem dX8_layAlike_6 : decode cX8_layAlike 6 = .ok (.iconst 1, 1) := by decide +kernel
theorem dX8_layAlike_7 : decode cX8_layAlike 7 = .ok (.istore_n 3, 1) := by decide +kernel
theorem dX8_layAlike_8 : decode cX8_layAlike 8 = .ok (.iload_n 3, 1) := by decide +kernel
theorem dX8_layAlike_9 : decode cX8_layAlike 9 = .ok (.ifCond .eq 73, 3) := by decide +kernel
theorem dX8_layAlike_12 : decode cX8_layAlike 12 = .ok (.aload_n 0, 1) := by decide +kernel
theorem dX8_layAlike_13 : decode cX8_layAlike 13 = .ok (.invokevirtual 320, 3) := by decide +kernel
theorem dX8_layAlike_16 : decode cX8_layAlike 16 = .ok (.ifCond .eq 57, 3) := by decide +kernel
theorem dX8_layAlike_19 : decode cX8_layAlike 19 = .ok (.iload_n 2, 1) := by decide +kernel
theorem dX8_layAlike_20 : decode cX8_layAlike 20 = .ok (.ifCond .eq 14, 3) := by decide +kernel
theorem dX8_layAlike_23 : decode cX8_layAlike 23 = .ok (.aload_n 0, 1) := by decide +kernel
theorem dX8_layAlike_24 : decode cX8_layAlike 24 = .ok (.invokevirtual 299, 3) := by decide +kernel
theorem dX8_layAlike_27 : decode cX8_layAlike 27 = .ok (.aload_n 0, 1) := by decide +kernel
theorem dX8_layAlike_28 : decode cX8_layAlike 28 = .ok (.getfield 117, 3) := by decide +kernel
theorem dX8_layAlike_31 : decode cX8_layAlike 31 = .ok (.if_icmp .ge 42, 3) := by decide +kernel
theorem dX8_layAlike_34 : decode cX8_layAlike 34 = .ok (.iconst 1, 1) := by decide +kernel
theorem dX8_layAlike_35 : decode cX8_layAlike 35 = .ok (.istore_n 2, 1) := by decide +kernel
theorem dX8_layAlike_36 : decode cX8_layAlike 36 = .ok (.aload_n 0, 1) := by decide +kernel
theorem dX8_layAlike_37 : decode cX8_layAlike 37 = .ok (.aload_n 0, 1) := by decide +kernel
theorem dX8_layAlike_38 : decode cX8_layAlike 38 = .ok (.invokevirtual 299, 3) := by decide +kernel
theorem dX8_layAlike_41 : decode cX8_layAlike 41 = .ok (.putfield 117, 3) := by decide +kernel
theorem dX8_layAlike_44 : decode cX8_layAlike 44 = .ok (.iconst 0, 1) := by decide +kernel
theorem dX8_layAlike_45 : decode cX8_layAlike 45 = .ok (.istore 4, 2) := by decide +kernel
theorem dX8_layAlike_47 : decode cX8_layAlike 47 = .ok (.iload 4, 2) := by decide +kernel
theorem dX8_layAlike_49 : decode cX8_layAlike 49 = .ok (.iconst 5, 1) := by decide +kernel
theorem dX8_layAlike_50 : decode cX8_layAlike 50 = .ok (.if_icmp .ge 23, 3) := by decide +kernel
theorem dX8_layAlike_53 : decode cX8_layAlike 53 = .ok (.aload_n 0, 1) := by decide +kernel
theorem dX8_layAlike_54 : decode cX8_layAlike 54 = .ok (.getfield 105, 3) := by decide +kernel
theorem dX8_layAlike_57 : decode cX8_layAlike 57 = .ok (.iload 4, 2) := by decide +kernel
theorem dX8_layAlike_59 : decode cX8_layAlike 59 = .ok (.aload_n 0, 1) := by decide +kernel
theorem dX8_layAlike_60 : decode cX8_layAlike 60 = .ok (.getfield 102, 3) := by decide +kernel
theorem dX8_layAlike_63 : decode cX8_layAlike 63 = .ok (.iload 4, 2) := by decide +kernel
theorem dX8_layAlike_65 : decode cX8_layAlike 65 = .ok (.iaload, 1) := by decide +kernel
theorem dX8_layAlike_66 : decode cX8_layAlike 66 = .ok (.iastore, 1) := by decide +kernel
theorem dX8_layAlike_67 : decode cX8_layAlike 67 = .ok (.iinc 4 1, 3) := by decide +kernel
theorem dX8_layAlike_70 : decode cX8_layAlike 70 = .ok (.goto (-23), 3) := by decide +kernel
theorem dX8_layAlike_73 : decode cX8_layAlike 73 = .ok (.aload_n 0, 1) := by decide +kernel
theorem dX8_layAlike_74 : decode cX8_layAlike 74 = .ok (.iload_n 1, 1) := by decide +kernel
theorem dX8_layAlike_75 : decode cX8_layAlike 75 = .ok (.invokevirtual 311, 3) := by decide +kernel
theorem dX8_layAlike_78 : decode cX8_layAlike 78 = .ok (.istore_n 3, 1) := by decide +kernel
theorem dX8_layAlike_79 : decode cX8_layAlike 79 = .ok (.goto (-71), 3) := by decide +kernel
theorem dX8_layAlike_82 : decode cX8_layAlike 82 = .ok (.iload_n 2, 1) := by decide +kernel
theorem dX8_layAlike_83 : decode cX8_layAlike 83 = .ok (.ireturn, 1) := by decide +kernel
theorem dX8_alike_0 : decode cX8_alike 0 = .ok (.iload_n 1, 1) := by decide +kernel
theorem dX8_alike_1 : decode cX8_alike 1 = .ok (.ifCond .eq 24, 3) := by decide +kernel
theorem dX8_alike_4 : decode cX8_alike 4 = .ok (.aload_n 0, 1) := by decide +kernel
theorem dX8_alike_5 : decode cX8_alike 5 = .ok (.iload_n 1, 1) := by decide +kernel
theorem dX8_alike_6 : decode cX8_alike 6 = .ok (.bipush 10, 2) := by decide +kernel
theorem dX8_alike_8 : decode cX8_alike 8 = .ok (.bipush 9, 2) := by decide +kernel
theorem dX8_alike_10 : decode cX8_alike 10 = .ok (.aload_n 0, 1) := by decide +kernel
theorem dX8_alike_11 : decode cX8_alike 11 = .ok (.getfield 7, 3) := by decide +kernel
theorem dX8_alike_14 : decode cX8_alike 14 = .ok (.iadd, 1) := by decide +kernel
theorem dX8_alike_15 : decode cX8_alike 15 = .ok (.invokevirtual 200, 3) := by decide +kernel
theorem dX8_alike_18 : decode cX8_alike 18 = .ok (.ifCond .ne 7, 3) := by decide +kernel
theorem dX8_alike_21 : decode cX8_alike 21 = .ok (.sipush (-1001), 3) := by decide +kernel
theorem dX8_alike_24 : decode cX8_alike 24 = .ok (.ireturn, 1) := by decide +kernel
theorem dX8_alike_25 : decode cX8_alike 25 = .ok (.aload_n 0, 1) := by decide +kernel
theorem dX8_alike_26 : decode cX8_alike 26 = .ok (.invokevirtual 278, 3) := by decide +kernel
theorem dX8_alike_29 : decode cX8_alike 29 = .ok (.iconst 0, 1) := by decide +kernel
theorem dX8_alike_30 : decode cX8_alike 30 = .ok (.istore_n 2, 1) := by decide +kernel
theorem dX8_alike_31 : decode cX8_alike 31 = .ok (.iload_n 2, 1) := by decide +kernel
theorem dX8_alike_32 : decode cX8_alike 32 = .ok (.iconst 3, 1) := by decide +kernel
theorem dX8_alike_33 : decode cX8_alike 33 = .ok (.if_icmp .ge 20, 3) := by decide +kernel
theorem dX8_alike_36 : decode cX8_alike 36 = .ok (.aload_n 0, 1) := by decide +kernel
theorem dX8_alike_37 : decode cX8_alike 37 = .ok (.getfield 123, 3) := by decide +kernel
theorem dX8_alike_40 : decode cX8_alike 40 = .ok (.iload_n 2, 1) := by decide +kernel
theorem dX8_alike_41 : decode cX8_alike 41 = .ok (.aload_n 0, 1) := by decide +kernel
theorem dX8_alike_42 : decode cX8_alike 42 = .ok (.iload_n 2, 1) := by decide +kernel
theorem dX8_alike_43 : decode cX8_alike 43 = .ok (.invokevirtual 281, 3) := by decide +kernel
theorem dX8_alike_46 : decode cX8_alike 46 = .ok (.iastore, 1) := by decide +kernel
theorem dX8_alike_47 : decode cX8_alike 47 = .ok (.iinc 2 1, 3) := by decide +kernel
theorem dX8_alike_50 : decode cX8_alike 50 = .ok (.goto (-19), 3) := by decide +kernel
theorem dX8_alike_53 : decode cX8_alike 53 = .ok (.aload_n 0, 1) := by decide +kernel
theorem dX8_alike_54 : decode cX8_alike 54 = .ok (.aload_n 0, 1) := by decide +kernel
theorem dX8_alike_55 : decode cX8_alike 55 = .ok (.invokevirtual 287, 3) := by decide +kernel
theorem dX8_alike_58 : decode cX8_alike 58 = .ok (.invokevirtual 323, 3) := by decide +kernel
theorem dX8_alike_61 : decode cX8_alike 61 = .ok (.ifCond .ne 6, 3) := by decide +kernel
theorem dX8_alike_64 : decode cX8_alike 64 = .ok (.bipush (-5), 2) := by decide +kernel
theorem dX8_alike_66 : decode cX8_alike 66 = .ok (.ireturn, 1) := by decide +kernel
theorem dX8_alike_67 : decode cX8_alike 67 = .ok (.iload_n 1, 1) := by decide +kernel
theorem dX8_alike_68 : decode cX8_alike 68 = .ok (.ifCond .ne 10, 3) := by decide +kernel
theorem dX8_alike_71 : decode cX8_alike 71 = .ok (.aload_n 0, 1) := by decide +kernel
theorem dX8_alike_72 : decode cX8_alike 72 = .ok (.getfield 117, 3) := by decide +kernel
theorem dX8_alike_75 : decode cX8_alike 75 = .ok (.goto 12, 3) := by decide +kernel
theorem dX8_alike_78 : decode cX8_alike 78 = .ok (.aload_n 0, 1) := by decide +kernel
theorem dX8_alike_79 : decode cX8_alike 79 = .ok (.getfield 105, 3) := by decide +kernel
theorem dX8_alike_82 : decode cX8_alike 82 = .ok (.iload_n 1, 1) := by decide +kernel
theorem dX8_alike_83 : decode cX8_alike 83 = .ok (.bipush 10, 2) := by decide +kernel
theorem dX8_alike_85 : decode cX8_alike 85 = .ok (.isub, 1) := by decide +kernel
theorem dX8_alike_86 : decode cX8_alike 86 = .ok (.iaload, 1) := by decide +kernel
theorem dX8_alike_87 : decode cX8_alike 87 = .ok (.ireturn, 1) := by decide +kernel
theorem dX8_moreNow_0 : decode cX8_moreNow 0 = .ok (.iconst 0, 1) := by decide +kernel
theorem dX8_moreNow_1 : decode cX8_moreNow 1 = .ok (.istore_n 1, 1) := by decide +kernel
theorem dX8_moreNow_2 : decode cX8_moreNow 2 = .ok (.iconst 0, 1) := by decide +kernel
theorem dX8_moreNow_3 : decode cX8_moreNow 3 = .ok (.istore_n 2, 1) := by decide +kernel
theorem dX8_moreNow_4 : decode cX8_moreNow 4 = .ok (.iload_n 2, 1) := by decide +kernel
theorem dX8_moreNow_5 : decode cX8_moreNow 5 = .ok (.iconst 3, 1) := by decide +kernel
theorem dX8_moreNow_6 : decode cX8_moreNow 6 = .ok (.if_icmp .ge 44, 3) := by decide +kernel
theorem dX8_moreNow_9 : decode cX8_moreNow 9 = .ok (.aload_n 0, 1) := by decide +kernel
theorem dX8_moreNow_10 : decode cX8_moreNow 10 = .ok (.getfield 38, 3) := by decide +kernel
theorem dX8_moreNow_13 : decode cX8_moreNow 13 = .ok (.iload_n 2, 1) := by decide +kernel
theorem dX8_moreNow_14 : decode cX8_moreNow 14 = .ok (.iaload, 1) := by decide +kernel
theorem dX8_moreNow_15 : decode cX8_moreNow 15 = .ok (.ifCond .ge 6, 3) := by decide +kernel
theorem dX8_moreNow_18 : decode cX8_moreNow 18 = .ok (.goto 26, 3) := by decide +kernel
theorem dX8_moreNow_21 : decode cX8_moreNow 21 = .ok (.aload_n 0, 1) := by decide +kernel
theorem dX8_moreNow_22 : decode cX8_moreNow 22 = .ok (.iload_n 2, 1) := by decide +kernel
theorem dX8_moreNow_23 : decode cX8_moreNow 23 = .ok (.invokevirtual 296, 3) := by decide +kernel
theorem dX8_moreNow_26 : decode cX8_moreNow 26 = .ok (.aload_n 0, 1) := by decide +kernel
theorem dX8_moreNow_27 : decode cX8_moreNow 27 = .ok (.getfield 38, 3) := by decide +kernel
theorem dX8_moreNow_30 : decode cX8_moreNow 30 = .ok (.iload_n 2, 1) := by decide +kernel
theorem dX8_moreNow_31 : decode cX8_moreNow 31 = .ok (.iaload, 1) := by decide +kernel
theorem dX8_moreNow_32 : decode cX8_moreNow 32 = .ok (.isub, 1) := by decide +kernel
theorem dX8_moreNow_33 : decode cX8_moreNow 33 = .ok (.istore_n 3, 1) := by decide +kernel
theorem dX8_moreNow_34 : decode cX8_moreNow 34 = .ok (.iload_n 3, 1) := by decide +kernel
theorem dX8_moreNow_35 : decode cX8_moreNow 35 = .ok (.ifCond .ge 5, 3) := by decide +kernel
theorem dX8_moreNow_38 : decode cX8_moreNow 38 = .ok (.iconst (-1), 1) := by decide +kernel
theorem dX8_moreNow_39 : decode cX8_moreNow 39 = .ok (.ireturn, 1) := by decide +kernel
theorem dX8_moreNow_40 : decode cX8_moreNow 40 = .ok (.iload_n 1, 1) := by decide +kernel
theorem dX8_moreNow_41 : decode cX8_moreNow 41 = .ok (.iload_n 3, 1) := by decide +kernel
theorem dX8_moreNow_42 : decode cX8_moreNow 42 = .ok (.iadd, 1) := by decide +kernel
theorem dX8_moreNow_43 : decode cX8_moreNow 43 = .ok (.istore_n 1, 1) := by decide +kernel
theorem dX8_moreNow_44 : decode cX8_moreNow 44 = .ok (.iinc 2 1, 3) := by decide +kernel
theorem dX8_moreNow_47 : decode cX8_moreNow 47 = .ok (.goto (-43), 3) := by decide +kernel
theorem dX8_moreNow_50 : decode cX8_moreNow 50 = .ok (.iload_n 1, 1) := by decide +kernel
theorem dX8_moreNow_51 : decode cX8_moreNow 51 = .ok (.ireturn, 1) := by decide +kernel
theorem dX8_missed_0 : decode cX8_missed 0 = .ok (.aload_n 0, 1) := by decide +kernel
theorem dX8_missed_1 : decode cX8_missed 1 = .ok (.invokevirtual 278, 3) := by decide +kernel
theorem dX8_missed_4 : decode cX8_missed 4 = .ok (.bipush (-5), 2) := by decide +kernel
theorem dX8_missed_6 : decode cX8_missed 6 = .ok (.istore_n 1, 1) := by decide +kernel
theorem dX8_missed_7 : decode cX8_missed 7 = .ok (.aload_n 0, 1) := by decide +kernel
theorem dX8_missed_8 : decode cX8_missed 8 = .ok (.invokevirtual 302, 3) := by decide +kernel
theorem dX8_missed_11 : decode cX8_missed 11 = .ok (.iconst 1, 1) := by decide +kernel
theorem dX8_missed_12 : decode cX8_missed 12 = .ok (.istore_n 2, 1) := by decide +kernel
theorem dX8_missed_13 : decode cX8_missed 13 = .ok (.iload_n 2, 1) := by decide +kernel
theorem dX8_missed_14 : decode cX8_missed 14 = .ok (.ifCond .eq 39, 3) := by decide +kernel
theorem dX8_missed_17 : decode cX8_missed 17 = .ok (.aload_n 0, 1) := by decide +kernel
theorem dX8_missed_18 : decode cX8_missed 18 = .ok (.invokevirtual 326, 3) := by decide +kernel
theorem dX8_missed_21 : decode cX8_missed 21 = .ok (.istore_n 3, 1) := by decide +kernel
theorem dX8_missed_22 : decode cX8_missed 22 = .ok (.iload_n 3, 1) := by decide +kernel
theorem dX8_missed_23 : decode cX8_missed 23 = .ok (.ifCond .lt 16, 3) := by decide +kernel
theorem dX8_missed_26 : decode cX8_missed 26 = .ok (.iload_n 1, 1) := by decide +kernel
theorem dX8_missed_27 : decode cX8_missed 27 = .ok (.ifCond .lt 8, 3) := by decide +kernel
theorem dX8_missed_30 : decode cX8_missed 30 = .ok (.iload_n 3, 1) := by decide +kernel
theorem dX8_missed_31 : decode cX8_missed 31 = .ok (.iload_n 1, 1) := by decide +kernel
theorem dX8_missed_32 : decode cX8_missed 32 = .ok (.if_icmp .ge 7, 3) := by decide +kernel
theorem dX8_missed_35 : decode cX8_missed 35 = .ok (.iload_n 3, 1) := by decide +kernel
theorem dX8_missed_36 : decode cX8_missed 36 = .ok (.goto 4, 3) := by decide +kernel
theorem dX8_missed_39 : decode cX8_missed 39 = .ok (.iload_n 1, 1) := by decide +kernel
theorem dX8_missed_40 : decode cX8_missed 40 = .ok (.istore_n 1, 1) := by decide +kernel
theorem dX8_missed_41 : decode cX8_missed 41 = .ok (.aload_n 0, 1) := by decide +kernel
theorem dX8_missed_42 : decode cX8_missed 42 = .ok (.aload_n 0, 1) := by decide +kernel
theorem dX8_missed_43 : decode cX8_missed 43 = .ok (.invokevirtual 287, 3) := by decide +kernel
theorem dX8_missed_46 : decode cX8_missed 46 = .ok (.invokevirtual 311, 3) := by decide +kernel
theorem dX8_missed_49 : decode cX8_missed 49 = .ok (.istore_n 2, 1) := by decide +kernel
theorem dX8_missed_50 : decode cX8_missed 50 = .ok (.goto (-37), 3) := by decide +kernel
theorem dX8_missed_53 : decode cX8_missed 53 = .ok (.iload_n 1, 1) := by decide +kernel
theorem dX8_missed_54 : decode cX8_missed 54 = .ok (.ireturn, 1) := by decide +kernel
theorem dX8_mix_0 : decode cX8_mix 0 = .ok (.aload_n 0, 1) := by decide +kernel
theorem dX8_mix_1 : decode cX8_mix 1 = .ok (.invokevirtual 278, 3) := by decide +kernel
theorem dX8_mix_4 : decode cX8_mix 4 = .ok (.iconst 0, 1) := by decide +kernel
theorem dX8_mix_5 : decode cX8_mix 5 = .ok (.istore_n 1, 1) := by decide +kernel
theorem dX8_mix_6 : decode cX8_mix 6 = .ok (.iload_n 1, 1) := by decide +kernel
theorem dX8_mix_7 : decode cX8_mix 7 = .ok (.iconst 3, 1) := by decide +kernel
theorem dX8_mix_8 : decode cX8_mix 8 = .ok (.if_icmp .ge 26, 3) := by decide +kernel
theorem dX8_mix_11 : decode cX8_mix 11 = .ok (.aload_n 0, 1) := by decide +kernel
theorem dX8_mix_12 : decode cX8_mix 12 = .ok (.getfield 123, 3) := by decide +kernel
theorem dX8_mix_15 : decode cX8_mix 15 = .ok (.iload_n 1, 1) := by decide +kernel
theorem dX8_mix_16 : decode cX8_mix 16 = .ok (.aload_n 0, 1) := by decide +kernel
theorem dX8_mix_17 : decode cX8_mix 17 = .ok (.iload_n 1, 1) := by decide +kernel
theorem dX8_mix_18 : decode cX8_mix 18 = .ok (.invokevirtual 281, 3) := by decide +kernel
theorem dX8_mix_21 : decode cX8_mix 21 = .ok (.aload_n 0, 1) := by decide +kernel
theorem dX8_mix_22 : decode cX8_mix 22 = .ok (.iload_n 1, 1) := by decide +kernel
theorem dX8_mix_23 : decode cX8_mix 23 = .ok (.invokevirtual 284, 3) := by decide +kernel
theorem dX8_mix_26 : decode cX8_mix 26 = .ok (.iadd, 1) := by decide +kernel
theorem dX8_mix_27 : decode cX8_mix 27 = .ok (.iastore, 1) := by decide +kernel
theorem dX8_mix_28 : decode cX8_mix 28 = .ok (.iinc 1 1, 3) := by decide +kernel
theorem dX8_mix_31 : decode cX8_mix 31 = .ok (.goto (-25), 3) := by decide +kernel
theorem dX8_mix_34 : decode cX8_mix 34 = .ok (.aload_n 0, 1) := by decide +kernel
theorem dX8_mix_35 : decode cX8_mix 35 = .ok (.iconst 2, 1) := by decide +kernel
theorem dX8_mix_36 : decode cX8_mix 36 = .ok (.aload_n 0, 1) := by decide +kernel
theorem dX8_mix_37 : decode cX8_mix 37 = .ok (.invokevirtual 287, 3) := by decide +kernel
theorem dX8_mix_40 : decode cX8_mix 40 = .ok (.imul, 1) := by decide +kernel
theorem dX8_mix_41 : decode cX8_mix 41 = .ok (.invokevirtual 323, 3) := by decide +kernel
theorem dX8_mix_44 : decode cX8_mix 44 = .ok (.ifCond .eq 20, 3) := by decide +kernel
theorem dX8_mix_47 : decode cX8_mix 47 = .ok (.aload_n 0, 1) := by decide +kernel
theorem dX8_mix_48 : decode cX8_mix 48 = .ok (.invokevirtual 290, 3) := by decide +kernel
theorem dX8_mix_51 : decode cX8_mix 51 = .ok (.aload_n 0, 1) := by decide +kernel
theorem dX8_mix_52 : decode cX8_mix 52 = .ok (.invokevirtual 293, 3) := by decide +kernel
theorem dX8_mix_55 : decode cX8_mix 55 = .ok (.iadd, 1) := by decide +kernel
theorem dX8_mix_56 : decode cX8_mix 56 = .ok (.aload_n 0, 1) := by decide +kernel
theorem dX8_mix_57 : decode cX8_mix 57 = .ok (.getfield 117, 3) := by decide +kernel
theorem dX8_mix_60 : decode cX8_mix 60 = .ok (.isub, 1) := by decide +kernel
theorem dX8_mix_61 : decode cX8_mix 61 = .ok (.goto 6, 3) := by decide +kernel
theorem dX8_mix_64 : decode cX8_mix 64 = .ok (.ldc_w 329, 3) := by decide +kernel
theorem dX8_mix_67 : decode cX8_mix 67 = .ok (.ireturn, 1) := by decide +kernel
theorem dX8_isFair_0 : decode cX8_isFair 0 = .ok (.iconst 0, 1) := by decide +kernel
theorem dX8_isFair_1 : decode cX8_isFair 1 = .ok (.istore 4, 2) := by decide +kernel
theorem dX8_isFair_3 : decode cX8_isFair 3 = .ok (.iload 4, 2) := by decide +kernel
theorem dX8_isFair_5 : decode cX8_isFair 5 = .ok (.aload_n 0, 1) := by decide +kernel
theorem dX8_isFair_6 : decode cX8_isFair 6 = .ok (.getfield 7, 3) := by decide +kernel
theorem dX8_isFair_9 : decode cX8_isFair 9 = .ok (.if_icmp .ge 60, 3) := by decide +kernel
theorem dX8_isFair_12 : decode cX8_isFair 12 = .ok (.iload_n 1, 1) := by decide +kernel
theorem dX8_isFair_13 : decode cX8_isFair 13 = .ok (.aload_n 0, 1) := by decide +kernel
theorem dX8_isFair_14 : decode cX8_isFair 14 = .ok (.getfield 96, 3) := by decide +kernel
theorem dX8_isFair_17 : decode cX8_isFair 17 = .ok (.iconst 3, 1) := by decide +kernel
theorem dX8_isFair_18 : decode cX8_isFair 18 = .ok (.iload 4, 2) := by decide +kernel
theorem dX8_isFair_20 : decode cX8_isFair 20 = .ok (.imul, 1) := by decide +kernel
theorem dX8_isFair_21 : decode cX8_isFair 21 = .ok (.iaload, 1) := by decide +kernel
theorem dX8_isFair_22 : decode cX8_isFair 22 = .ok (.imul, 1) := by decide +kernel
theorem dX8_isFair_23 : decode cX8_isFair 23 = .ok (.iload_n 2, 1) := by decide +kernel
theorem dX8_isFair_24 : decode cX8_isFair 24 = .ok (.aload_n 0, 1) := by decide +kernel
theorem dX8_isFair_25 : decode cX8_isFair 25 = .ok (.getfield 96, 3) := by decide +kernel
theorem dX8_isFair_28 : decode cX8_isFair 28 = .ok (.iconst 3, 1) := by decide +kernel
theorem dX8_isFair_29 : decode cX8_isFair 29 = .ok (.iload 4, 2) := by decide +kernel
theorem dX8_isFair_31 : decode cX8_isFair 31 = .ok (.imul, 1) := by decide +kernel
theorem dX8_isFair_32 : decode cX8_isFair 32 = .ok (.iconst 1, 1) := by decide +kernel
theorem dX8_isFair_33 : decode cX8_isFair 33 = .ok (.iadd, 1) := by decide +kernel
theorem dX8_isFair_34 : decode cX8_isFair 34 = .ok (.iaload, 1) := by decide +kernel
theorem dX8_isFair_35 : decode cX8_isFair 35 = .ok (.imul, 1) := by decide +kernel
theorem dX8_isFair_36 : decode cX8_isFair 36 = .ok (.iadd, 1) := by decide +kernel
theorem dX8_isFair_37 : decode cX8_isFair 37 = .ok (.iload_n 3, 1) := by decide +kernel
theorem dX8_isFair_38 : decode cX8_isFair 38 = .ok (.aload_n 0, 1) := by decide +kernel
theorem dX8_isFair_39 : decode cX8_isFair 39 = .ok (.getfield 96, 3) := by decide +kernel
theorem dX8_isFair_42 : decode cX8_isFair 42 = .ok (.iconst 3, 1) := by decide +kernel
theorem dX8_isFair_43 : decode cX8_isFair 43 = .ok (.iload 4, 2) := by decide +kernel
theorem dX8_isFair_45 : decode cX8_isFair 45 = .ok (.imul, 1) := by decide +kernel
theorem dX8_isFair_46 : decode cX8_isFair 46 = .ok (.iconst 2, 1) := by decide +kernel
theorem dX8_isFair_47 : decode cX8_isFair 47 = .ok (.iadd, 1) := by decide +kernel
theorem dX8_isFair_48 : decode cX8_isFair 48 = .ok (.iaload, 1) := by decide +kernel
theorem dX8_isFair_49 : decode cX8_isFair 49 = .ok (.imul, 1) := by decide +kernel
theorem dX8_isFair_50 : decode cX8_isFair 50 = .ok (.iadd, 1) := by decide +kernel
theorem dX8_isFair_51 : decode cX8_isFair 51 = .ok (.aload_n 0, 1) := by decide +kernel
theorem dX8_isFair_52 : decode cX8_isFair 52 = .ok (.getfield 99, 3) := by decide +kernel
theorem dX8_isFair_55 : decode cX8_isFair 55 = .ok (.iload 4, 2) := by decide +kernel
theorem dX8_isFair_57 : decode cX8_isFair 57 = .ok (.iaload, 1) := by decide +kernel
theorem dX8_isFair_58 : decode cX8_isFair 58 = .ok (.if_icmp .le 5, 3) := by decide +kernel
theorem dX8_isFair_61 : decode cX8_isFair 61 = .ok (.iconst 0, 1) := by decide +kernel
theorem dX8_isFair_62 : decode cX8_isFair 62 = .ok (.ireturn, 1) := by decide +kernel
theorem dX8_isFair_63 : decode cX8_isFair 63 = .ok (.iinc 4 1, 3) := by decide +kernel
theorem dX8_isFair_66 : decode cX8_isFair 66 = .ok (.goto (-63), 3) := by decide +kernel
theorem dX8_isFair_69 : decode cX8_isFair 69 = .ok (.iconst 1, 1) := by decide +kernel
theorem dX8_isFair_70 : decode cX8_isFair 70 = .ok (.ireturn, 1) := by decide +kernel
theorem dX8_prices_0 : decode cX8_prices 0 = .ok (.aload_n 0, 1) := by decide +kernel
theorem dX8_prices_1 : decode cX8_prices 1 = .ok (.iload_n 1, 1) := by decide +kernel
theorem dX8_prices_2 : decode cX8_prices 2 = .ok (.iconst 0, 1) := by decide +kernel
theorem dX8_prices_3 : decode cX8_prices 3 = .ok (.iconst 3, 1) := by decide +kernel
theorem dX8_prices_4 : decode cX8_prices 4 = .ok (.invokevirtual 200, 3) := by decide +kernel
theorem dX8_prices_7 : decode cX8_prices 7 = .ok (.ifCond .ne 5, 3) := by decide +kernel
theorem dX8_prices_10 : decode cX8_prices 10 = .ok (.iconst (-1), 1) := by decide +kernel
theorem dX8_prices_11 : decode cX8_prices 11 = .ok (.ireturn, 1) := by decide +kernel
theorem dX8_prices_12 : decode cX8_prices 12 = .ok (.aload_n 0, 1) := by decide +kernel
theorem dX8_prices_13 : decode cX8_prices 13 = .ok (.invokevirtual 278, 3) := by decide +kernel
theorem dX8_prices_16 : decode cX8_prices 16 = .ok (.iconst 0, 1) := by decide +kernel
theorem dX8_prices_17 : decode cX8_prices 17 = .ok (.istore_n 2, 1) := by decide +kernel
theorem dX8_prices_18 : decode cX8_prices 18 = .ok (.iconst (-1), 1) := by decide +kernel
theorem dX8_prices_19 : decode cX8_prices 19 = .ok (.istore_n 3, 1) := by decide +kernel
theorem dX8_prices_20 : decode cX8_prices 20 = .ok (.iconst 0, 1) := by decide +kernel
theorem dX8_prices_21 : decode cX8_prices 21 = .ok (.istore 4, 2) := by decide +kernel
theorem dX8_prices_23 : decode cX8_prices 23 = .ok (.iload 4, 2) := by decide +kernel
theorem dX8_prices_25 : decode cX8_prices 25 = .ok (.sipush 1000, 3) := by decide +kernel
theorem dX8_prices_28 : decode cX8_prices 28 = .ok (.if_icmp .ge 89, 3) := by decide +kernel
theorem dX8_prices_31 : decode cX8_prices 31 = .ok (.iload 4, 2) := by decide +kernel
theorem dX8_prices_33 : decode cX8_prices 33 = .ok (.bipush 100, 2) := by decide +kernel
theorem dX8_prices_35 : decode cX8_prices 35 = .ok (.idiv, 1) := by decide +kernel
theorem dX8_prices_36 : decode cX8_prices 36 = .ok (.istore 5, 2) := by decide +kernel
theorem dX8_prices_38 : decode cX8_prices 38 = .ok (.iload 4, 2) := by decide +kernel
theorem dX8_prices_40 : decode cX8_prices 40 = .ok (.bipush 10, 2) := by decide +kernel
theorem dX8_prices_42 : decode cX8_prices 42 = .ok (.idiv, 1) := by decide +kernel
theorem dX8_prices_43 : decode cX8_prices 43 = .ok (.bipush 10, 2) := by decide +kernel
theorem dX8_prices_45 : decode cX8_prices 45 = .ok (.irem, 1) := by decide +kernel
theorem dX8_prices_46 : decode cX8_prices 46 = .ok (.istore 6, 2) := by decide +kernel
theorem dX8_prices_48 : decode cX8_prices 48 = .ok (.iload 4, 2) := by decide +kernel
theorem dX8_prices_50 : decode cX8_prices 50 = .ok (.bipush 10, 2) := by decide +kernel
theorem dX8_prices_52 : decode cX8_prices 52 = .ok (.irem, 1) := by decide +kernel
theorem dX8_prices_53 : decode cX8_prices 53 = .ok (.istore 7, 2) := by decide +kernel
theorem dX8_prices_55 : decode cX8_prices 55 = .ok (.iload 5, 2) := by decide +kernel
theorem dX8_prices_57 : decode cX8_prices 57 = .ok (.aload_n 0, 1) := by decide +kernel
theorem dX8_prices_58 : decode cX8_prices 58 = .ok (.iconst 0, 1) := by decide +kernel
theorem dX8_prices_59 : decode cX8_prices 59 = .ok (.invokevirtual 281, 3) := by decide +kernel
theorem dX8_prices_62 : decode cX8_prices 62 = .ok (.imul, 1) := by decide +kernel
theorem dX8_prices_63 : decode cX8_prices 63 = .ok (.iload 6, 2) := by decide +kernel
theorem dX8_prices_65 : decode cX8_prices 65 = .ok (.aload_n 0, 1) := by decide +kernel
theorem dX8_prices_66 : decode cX8_prices 66 = .ok (.iconst 1, 1) := by decide +kernel
theorem dX8_prices_67 : decode cX8_prices 67 = .ok (.invokevirtual 281, 3) := by decide +kernel
theorem dX8_prices_70 : decode cX8_prices 70 = .ok (.imul, 1) := by decide +kernel
theorem dX8_prices_71 : decode cX8_prices 71 = .ok (.iadd, 1) := by decide +kernel
theorem dX8_prices_72 : decode cX8_prices 72 = .ok (.iload 7, 2) := by decide +kernel
theorem dX8_prices_74 : decode cX8_prices 74 = .ok (.aload_n 0, 1) := by decide +kernel
theorem dX8_prices_75 : decode cX8_prices 75 = .ok (.iconst 2, 1) := by decide +kernel
theorem dX8_prices_76 : decode cX8_prices 76 = .ok (.invokevirtual 281, 3) := by decide +kernel
theorem dX8_prices_79 : decode cX8_prices 79 = .ok (.imul, 1) := by decide +kernel
theorem dX8_prices_80 : decode cX8_prices 80 = .ok (.iadd, 1) := by decide +kernel
theorem dX8_prices_81 : decode cX8_prices 81 = .ok (.istore 8, 2) := by decide +kernel
theorem dX8_prices_83 : decode cX8_prices 83 = .ok (.iload 8, 2) := by decide +kernel
theorem dX8_prices_85 : decode cX8_prices 85 = .ok (.iload_n 3, 1) := by decide +kernel
theorem dX8_prices_86 : decode cX8_prices 86 = .ok (.if_icmp .le 25, 3) := by decide +kernel
theorem dX8_prices_89 : decode cX8_prices 89 = .ok (.aload_n 0, 1) := by decide +kernel
theorem dX8_prices_90 : decode cX8_prices 90 = .ok (.iload 5, 2) := by decide +kernel
theorem dX8_prices_92 : decode cX8_prices 92 = .ok (.iload 6, 2) := by decide +kernel
theorem dX8_prices_94 : decode cX8_prices 94 = .ok (.iload 7, 2) := by decide +kernel
theorem dX8_prices_96 : decode cX8_prices 96 = .ok (.invokevirtual 330, 3) := by decide +kernel
theorem dX8_prices_99 : decode cX8_prices 99 = .ok (.ifCond .ne 6, 3) := by decide +kernel
theorem dX8_prices_102 : decode cX8_prices 102 = .ok (.goto 9, 3) := by decide +kernel
theorem dX8_prices_105 : decode cX8_prices 105 = .ok (.iload 4, 2) := by decide +kernel
theorem dX8_prices_107 : decode cX8_prices 107 = .ok (.istore_n 2, 1) := by decide +kernel
theorem dX8_prices_108 : decode cX8_prices 108 = .ok (.iload 8, 2) := by decide +kernel
theorem dX8_prices_110 : decode cX8_prices 110 = .ok (.istore_n 3, 1) := by decide +kernel
theorem dX8_prices_111 : decode cX8_prices 111 = .ok (.iinc 4 1, 3) := by decide +kernel
theorem dX8_prices_114 : decode cX8_prices 114 = .ok (.goto (-91), 3) := by decide +kernel
theorem dX8_prices_117 : decode cX8_prices 117 = .ok (.iload_n 1, 1) := by decide +kernel
theorem dX8_prices_118 : decode cX8_prices 118 = .ok (.ifCond .ne 7, 3) := by decide +kernel
theorem dX8_prices_121 : decode cX8_prices 121 = .ok (.iload_n 3, 1) := by decide +kernel
theorem dX8_prices_122 : decode cX8_prices 122 = .ok (.goto 34, 3) := by decide +kernel
theorem dX8_prices_125 : decode cX8_prices 125 = .ok (.iload_n 1, 1) := by decide +kernel
theorem dX8_prices_126 : decode cX8_prices 126 = .ok (.iconst 1, 1) := by decide +kernel
theorem dX8_prices_127 : decode cX8_prices 127 = .ok (.if_icmp .ne 10, 3) := by decide +kernel
theorem dX8_prices_130 : decode cX8_prices 130 = .ok (.iload_n 2, 1) := by decide +kernel
theorem dX8_prices_131 : decode cX8_prices 131 = .ok (.bipush 100, 2) := by decide +kernel
theorem dX8_prices_133 : decode cX8_prices 133 = .ok (.idiv, 1) := by decide +kernel
theorem dX8_prices_134 : decode cX8_prices 134 = .ok (.goto 22, 3) := by decide +kernel
theorem dX8_prices_137 : decode cX8_prices 137 = .ok (.iload_n 1, 1) := by decide +kernel
theorem dX8_prices_138 : decode cX8_prices 138 = .ok (.iconst 2, 1) := by decide +kernel
theorem dX8_prices_139 : decode cX8_prices 139 = .ok (.if_icmp .ne 13, 3) := by decide +kernel
theorem dX8_prices_142 : decode cX8_prices 142 = .ok (.iload_n 2, 1) := by decide +kernel
theorem dX8_prices_143 : decode cX8_prices 143 = .ok (.bipush 10, 2) := by decide +kernel
theorem dX8_prices_145 : decode cX8_prices 145 = .ok (.idiv, 1) := by decide +kernel
theorem dX8_prices_146 : decode cX8_prices 146 = .ok (.bipush 10, 2) := by decide +kernel
theorem dX8_prices_148 : decode cX8_prices 148 = .ok (.irem, 1) := by decide +kernel
theorem dX8_prices_149 : decode cX8_prices 149 = .ok (.goto 7, 3) := by decide +kernel
theorem dX8_prices_152 : decode cX8_prices 152 = .ok (.iload_n 2, 1) := by decide +kernel
theorem dX8_prices_153 : decode cX8_prices 153 = .ok (.bipush 10, 2) := by decide +kernel
theorem dX8_prices_155 : decode cX8_prices 155 = .ok (.irem, 1) := by decide +kernel
theorem dX8_prices_156 : decode cX8_prices 156 = .ok (.ireturn, 1) := by decide +kernel
theorem dX8_isWithout_0 : decode cX8_isWithout 0 = .ok (.iconst 0, 1) := by decide +kernel
theorem dX8_isWithout_1 : decode cX8_isWithout 1 = .ok (.istore_n 3, 1) := by decide +kernel
theorem dX8_isWithout_2 : decode cX8_isWithout 2 = .ok (.iload_n 3, 1) := by decide +kernel
theorem dX8_isWithout_3 : decode cX8_isWithout 3 = .ok (.iconst 3, 1) := by decide +kernel
theorem dX8_isWithout_4 : decode cX8_isWithout 4 = .ok (.if_icmp .ge 47, 3) := by decide +kernel
theorem dX8_isWithout_7 : decode cX8_isWithout 7 = .ok (.aload_n 0, 1) := by decide +kernel
theorem dX8_isWithout_8 : decode cX8_isWithout 8 = .ok (.getfield 38, 3) := by decide +kernel
theorem dX8_isWithout_11 : decode cX8_isWithout 11 = .ok (.iload_n 3, 1) := by decide +kernel
theorem dX8_isWithout_12 : decode cX8_isWithout 12 = .ok (.iaload, 1) := by decide +kernel
theorem dX8_isWithout_13 : decode cX8_isWithout 13 = .ok (.ifCond .lt 32, 3) := by decide +kernel
theorem dX8_isWithout_16 : decode cX8_isWithout 16 = .ok (.aload_n 0, 1) := by decide +kernel
theorem dX8_isWithout_17 : decode cX8_isWithout 17 = .ok (.iload_n 3, 1) := by decide +kernel
theorem dX8_isWithout_18 : decode cX8_isWithout 18 = .ok (.invokevirtual 281, 3) := by decide +kernel
theorem dX8_isWithout_21 : decode cX8_isWithout 21 = .ok (.iload_n 2, 1) := by decide +kernel
theorem dX8_isWithout_22 : decode cX8_isWithout 22 = .ok (.aload_n 0, 1) := by decide +kernel
theorem dX8_isWithout_23 : decode cX8_isWithout 23 = .ok (.getfield 96, 3) := by decide +kernel
theorem dX8_isWithout_26 : decode cX8_isWithout 26 = .ok (.iconst 3, 1) := by decide +kernel
theorem dX8_isWithout_27 : decode cX8_isWithout 27 = .ok (.iload_n 1, 1) := by decide +kernel
theorem dX8_isWithout_28 : decode cX8_isWithout 28 = .ok (.imul, 1) := by decide +kernel
theorem dX8_isWithout_29 : decode cX8_isWithout 29 = .ok (.iload_n 3, 1) := by decide +kernel
theorem dX8_isWithout_30 : decode cX8_isWithout 30 = .ok (.iadd, 1) := by decide +kernel
theorem dX8_isWithout_31 : decode cX8_isWithout 31 = .ok (.iaload, 1) := by decide +kernel
theorem dX8_isWithout_32 : decode cX8_isWithout 32 = .ok (.imul, 1) := by decide +kernel
theorem dX8_isWithout_33 : decode cX8_isWithout 33 = .ok (.isub, 1) := by decide +kernel
theorem dX8_isWithout_34 : decode cX8_isWithout 34 = .ok (.aload_n 0, 1) := by decide +kernel
theorem dX8_isWithout_35 : decode cX8_isWithout 35 = .ok (.getfield 38, 3) := by decide +kernel
theorem dX8_isWithout_38 : decode cX8_isWithout 38 = .ok (.iload_n 3, 1) := by decide +kernel
theorem dX8_isWithout_39 : decode cX8_isWithout 39 = .ok (.iaload, 1) := by decide +kernel
theorem dX8_isWithout_40 : decode cX8_isWithout 40 = .ok (.if_icmp .eq 5, 3) := by decide +kernel
theorem dX8_isWithout_43 : decode cX8_isWithout 43 = .ok (.iconst 0, 1) := by decide +kernel
theorem dX8_isWithout_44 : decode cX8_isWithout 44 = .ok (.ireturn, 1) := by decide +kernel
theorem dX8_isWithout_45 : decode cX8_isWithout 45 = .ok (.iinc 3 1, 3) := by decide +kernel
theorem dX8_isWithout_48 : decode cX8_isWithout 48 = .ok (.goto (-46), 3) := by decide +kernel
theorem dX8_isWithout_51 : decode cX8_isWithout 51 = .ok (.iconst 1, 1) := by decide +kernel
theorem dX8_isWithout_52 : decode cX8_isWithout 52 = .ok (.ireturn, 1) := by decide +kernel
theorem dX8_hid_0 : decode cX8_hid 0 = .ok (.aload_n 0, 1) := by decide +kernel
theorem dX8_hid_1 : decode cX8_hid 1 = .ok (.invokevirtual 278, 3) := by decide +kernel
theorem dX8_hid_4 : decode cX8_hid 4 = .ok (.iconst 0, 1) := by decide +kernel
theorem dX8_hid_5 : decode cX8_hid 5 = .ok (.istore_n 1, 1) := by decide +kernel
theorem dX8_hid_6 : decode cX8_hid 6 = .ok (.iload_n 1, 1) := by decide +kernel
theorem dX8_hid_7 : decode cX8_hid 7 = .ok (.aload_n 0, 1) := by decide +kernel
theorem dX8_hid_8 : decode cX8_hid 8 = .ok (.getfield 7, 3) := by decide +kernel
theorem dX8_hid_11 : decode cX8_hid 11 = .ok (.if_icmp .ge 43, 3) := by decide +kernel
theorem dX8_hid_14 : decode cX8_hid 14 = .ok (.iconst 1, 1) := by decide +kernel
theorem dX8_hid_15 : decode cX8_hid 15 = .ok (.istore_n 2, 1) := by decide +kernel
theorem dX8_hid_16 : decode cX8_hid 16 = .ok (.iload_n 2, 1) := by decide +kernel
theorem dX8_hid_17 : decode cX8_hid 17 = .ok (.aload_n 0, 1) := by decide +kernel
theorem dX8_hid_18 : decode cX8_hid 18 = .ok (.getfield 29, 3) := by decide +kernel
theorem dX8_hid_21 : decode cX8_hid 21 = .ok (.iload_n 1, 1) := by decide +kernel
theorem dX8_hid_22 : decode cX8_hid 22 = .ok (.iaload, 1) := by decide +kernel
theorem dX8_hid_23 : decode cX8_hid 23 = .ok (.if_icmp .gt 25, 3) := by decide +kernel
theorem dX8_hid_26 : decode cX8_hid 26 = .ok (.aload_n 0, 1) := by decide +kernel
theorem dX8_hid_27 : decode cX8_hid 27 = .ok (.iload_n 1, 1) := by decide +kernel
theorem dX8_hid_28 : decode cX8_hid 28 = .ok (.iload_n 2, 1) := by decide +kernel
theorem dX8_hid_29 : decode cX8_hid 29 = .ok (.invokevirtual 333, 3) := by decide +kernel
theorem dX8_hid_32 : decode cX8_hid 32 = .ok (.ifCond .eq 10, 3) := by decide +kernel
theorem dX8_hid_35 : decode cX8_hid 35 = .ok (.bipush 100, 2) := by decide +kernel
theorem dX8_hid_37 : decode cX8_hid 37 = .ok (.iload_n 1, 1) := by decide +kernel
theorem dX8_hid_38 : decode cX8_hid 38 = .ok (.imul, 1) := by decide +kernel
theorem dX8_hid_39 : decode cX8_hid 39 = .ok (.iload_n 2, 1) := by decide +kernel
theorem dX8_hid_40 : decode cX8_hid 40 = .ok (.iadd, 1) := by decide +kernel
theorem dX8_hid_41 : decode cX8_hid 41 = .ok (.ireturn, 1) := by decide +kernel
theorem dX8_hid_42 : decode cX8_hid 42 = .ok (.iinc 2 1, 3) := by decide +kernel
theorem dX8_hid_45 : decode cX8_hid 45 = .ok (.goto (-29), 3) := by decide +kernel
theorem dX8_hid_48 : decode cX8_hid 48 = .ok (.iinc 1 1, 3) := by decide +kernel
theorem dX8_hid_51 : decode cX8_hid 51 = .ok (.goto (-45), 3) := by decide +kernel
theorem dX8_hid_54 : decode cX8_hid 54 = .ok (.bipush (-5), 2) := by decide +kernel
theorem dX8_hid_56 : decode cX8_hid 56 = .ok (.ireturn, 1) := by decide +kernel
theorem dX8_months_0 : decode cX8_months 0 = .ok (.aload_n 0, 1) := by decide +kernel
theorem dX8_months_1 : decode cX8_months 1 = .ok (.getfield 13, 3) := by decide +kernel
theorem dX8_months_4 : decode cX8_months 4 = .ok (.istore_n 1, 1) := by decide +kernel
theorem dX8_months_5 : decode cX8_months 5 = .ok (.iconst 0, 1) := by decide +kernel
theorem dX8_months_6 : decode cX8_months 6 = .ok (.istore_n 2, 1) := by decide +kernel
theorem dX8_months_7 : decode cX8_months 7 = .ok (.iconst 0, 1) := by decide +kernel
theorem dX8_months_8 : decode cX8_months 8 = .ok (.istore_n 3, 1) := by decide +kernel
theorem dX8_months_9 : decode cX8_months 9 = .ok (.iload_n 3, 1) := by decide +kernel
theorem dX8_months_10 : decode cX8_months 10 = .ok (.bipush 12, 2) := by decide +kernel
theorem dX8_months_12 : decode cX8_months 12 = .ok (.if_icmp .ge 89, 3) := by decide +kernel
theorem dX8_months_15 : decode cX8_months 15 = .ok (.aload_n 0, 1) := by decide +kernel
theorem dX8_months_16 : decode cX8_months 16 = .ok (.iload_n 3, 1) := by decide +kernel
theorem dX8_months_17 : decode cX8_months 17 = .ok (.putfield 13, 3) := by decide +kernel
theorem dX8_months_20 : decode cX8_months 20 = .ok (.aload_n 0, 1) := by decide +kernel
theorem dX8_months_21 : decode cX8_months 21 = .ok (.invokevirtual 278, 3) := by decide +kernel
theorem dX8_months_24 : decode cX8_months 24 = .ok (.iconst 1, 1) := by decide +kernel
theorem dX8_months_25 : decode cX8_months 25 = .ok (.istore 4, 2) := by decide +kernel
theorem dX8_months_27 : decode cX8_months 27 = .ok (.iconst 0, 1) := by decide +kernel
theorem dX8_months_28 : decode cX8_months 28 = .ok (.istore 5, 2) := by decide +kernel
theorem dX8_months_30 : decode cX8_months 30 = .ok (.iload 5, 2) := by decide +kernel
theorem dX8_months_32 : decode cX8_months 32 = .ok (.iconst 3, 1) := by decide +kernel
theorem dX8_months_33 : decode cX8_months 33 = .ok (.if_icmp .ge 47, 3) := by decide +kernel
theorem dX8_months_36 : decode cX8_months 36 = .ok (.iload 4, 2) := by decide +kernel
theorem dX8_months_38 : decode cX8_months 38 = .ok (.ifCond .eq 33, 3) := by decide +kernel
theorem dX8_months_41 : decode cX8_months 41 = .ok (.aload_n 0, 1) := by decide +kernel
theorem dX8_months_42 : decode cX8_months 42 = .ok (.getfield 38, 3) := by decide +kernel
theorem dX8_months_45 : decode cX8_months 45 = .ok (.iload 5, 2) := by decide +kernel
theorem dX8_months_47 : decode cX8_months 47 = .ok (.iaload, 1) := by decide +kernel
theorem dX8_months_48 : decode cX8_months 48 = .ok (.ifCond .lt 19, 3) := by decide +kernel
theorem dX8_months_51 : decode cX8_months 51 = .ok (.aload_n 0, 1) := by decide +kernel
theorem dX8_months_52 : decode cX8_months 52 = .ok (.iload 5, 2) := by decide +kernel
theorem dX8_months_54 : decode cX8_months 54 = .ok (.invokevirtual 281, 3) := by decide +kernel
theorem dX8_months_57 : decode cX8_months 57 = .ok (.aload_n 0, 1) := by decide +kernel
theorem dX8_months_58 : decode cX8_months 58 = .ok (.getfield 38, 3) := by decide +kernel
theorem dX8_months_61 : decode cX8_months 61 = .ok (.iload 5, 2) := by decide +kernel
theorem dX8_months_63 : decode cX8_months 63 = .ok (.iaload, 1) := by decide +kernel
theorem dX8_months_64 : decode cX8_months 64 = .ok (.if_icmp .ne 7, 3) := by decide +kernel
theorem dX8_months_67 : decode cX8_months 67 = .ok (.iconst 1, 1) := by decide +kernel
theorem dX8_months_68 : decode cX8_months 68 = .ok (.goto 4, 3) := by decide +kernel
theorem dX8_months_71 : decode cX8_months 71 = .ok (.iconst 0, 1) := by decide +kernel
theorem dX8_months_72 : decode cX8_months 72 = .ok (.istore 4, 2) := by decide +kernel
theorem dX8_months_74 : decode cX8_months 74 = .ok (.iinc 5 1, 3) := by decide +kernel
theorem dX8_months_77 : decode cX8_months 77 = .ok (.goto (-47), 3) := by decide +kernel
theorem dX8_months_80 : decode cX8_months 80 = .ok (.iload_n 2, 1) := by decide +kernel
theorem dX8_months_81 : decode cX8_months 81 = .ok (.iload 4, 2) := by decide +kernel
theorem dX8_months_83 : decode cX8_months 83 = .ok (.ifCond .eq 9, 3) := by decide +kernel
theorem dX8_months_86 : decode cX8_months 86 = .ok (.iconst 1, 1) := by decide +kernel
theorem dX8_months_87 : decode cX8_months 87 = .ok (.iload_n 3, 1) := by decide +kernel
theorem dX8_months_88 : decode cX8_months 88 = .ok (.ishl, 1) := by decide +kernel
theorem dX8_months_89 : decode cX8_months 89 = .ok (.goto 4, 3) := by decide +kernel
theorem dX8_months_92 : decode cX8_months 92 = .ok (.iconst 0, 1) := by decide +kernel
theorem dX8_months_93 : decode cX8_months 93 = .ok (.ior, 1) := by decide +kernel
theorem dX8_months_94 : decode cX8_months 94 = .ok (.istore_n 2, 1) := by decide +kernel
theorem dX8_months_95 : decode cX8_months 95 = .ok (.iinc 3 1, 3) := by decide +kernel
theorem dX8_months_98 : decode cX8_months 98 = .ok (.goto (-89), 3) := by decide +kernel
theorem dX8_months_101 : decode cX8_months 101 = .ok (.aload_n 0, 1) := by decide +kernel
theorem dX8_months_102 : decode cX8_months 102 = .ok (.iload_n 1, 1) := by decide +kernel
theorem dX8_months_103 : decode cX8_months 103 = .ok (.putfield 13, 3) := by decide +kernel
theorem dX8_months_106 : decode cX8_months 106 = .ok (.iload_n 2, 1) := by decide +kernel
theorem dX8_months_107 : decode cX8_months 107 = .ok (.ireturn, 1) := by decide +kernel
theorem dX8_lowest_0 : decode cX8_lowest 0 = .ok (.aload_n 0, 1) := by decide +kernel
theorem dX8_lowest_1 : decode cX8_lowest 1 = .ok (.iload_n 1, 1) := by decide +kernel
theorem dX8_lowest_2 : decode cX8_lowest 2 = .ok (.iload_n 2, 1) := by decide +kernel
theorem dX8_lowest_3 : decode cX8_lowest 3 = .ok (.invokevirtual 317, 3) := by decide +kernel
theorem dX8_lowest_6 : decode cX8_lowest 6 = .ok (.istore 4, 2) := by decide +kernel
theorem dX8_lowest_8 : decode cX8_lowest 8 = .ok (.iload_n 3, 1) := by decide +kernel
theorem dX8_lowest_9 : decode cX8_lowest 9 = .ok (.ifCond .ne 11, 3) := by decide +kernel
theorem dX8_lowest_12 : decode cX8_lowest 12 = .ok (.iload_n 1, 1) := by decide +kernel
theorem dX8_lowest_13 : decode cX8_lowest 13 = .ok (.iload 4, 2) := by decide +kernel
theorem dX8_lowest_15 : decode cX8_lowest 15 = .ok (.idiv, 1) := by decide +kernel
theorem dX8_lowest_16 : decode cX8_lowest 16 = .ok (.i2l, 1) := by decide +kernel
theorem dX8_lowest_17 : decode cX8_lowest 17 = .ok (.goto 8, 3) := by decide +kernel
theorem dX8_lowest_20 : decode cX8_lowest 20 = .ok (.iload_n 2, 1) := by decide +kernel
theorem dX8_lowest_21 : decode cX8_lowest 21 = .ok (.iload 4, 2) := by decide +kernel
theorem dX8_lowest_23 : decode cX8_lowest 23 = .ok (.idiv, 1) := by decide +kernel
theorem dX8_lowest_24 : decode cX8_lowest 24 = .ok (.i2l, 1) := by decide +kernel
theorem dX8_lowest_25 : decode cX8_lowest 25 = .ok (.lreturn, 1) := by decide +kernel
theorem dX8_odds_0 : decode cX8_odds 0 = .ok (.aload_n 0, 1) := by decide +kernel
theorem dX8_odds_1 : decode cX8_odds 1 = .ok (.iload_n 1, 1) := by decide +kernel
theorem dX8_odds_2 : decode cX8_odds 2 = .ok (.invokevirtual 208, 3) := by decide +kernel
theorem dX8_odds_5 : decode cX8_odds 5 = .ok (.ifCond .eq 13, 3) := by decide +kernel
theorem dX8_odds_8 : decode cX8_odds 8 = .ok (.aload_n 0, 1) := by decide +kernel
theorem dX8_odds_9 : decode cX8_odds 9 = .ok (.iload_n 2, 1) := by decide +kernel
theorem dX8_odds_10 : decode cX8_odds 10 = .ok (.iconst 0, 1) := by decide +kernel
theorem dX8_odds_11 : decode cX8_odds 11 = .ok (.iconst 1, 1) := by decide +kernel
theorem dX8_odds_12 : decode cX8_odds 12 = .ok (.invokevirtual 200, 3) := by decide +kernel
theorem dX8_odds_15 : decode cX8_odds 15 = .ok (.ifCond .ne 7, 3) := by decide +kernel
theorem dX8_odds_18 : decode cX8_odds 18 = .ok (.ldc2_w 336, 3) := by decide +kernel
theorem dX8_odds_21 : decode cX8_odds 21 = .ok (.lreturn, 1) := by decide +kernel
theorem dX8_odds_22 : decode cX8_odds 22 = .ok (.aload_n 0, 1) := by decide +kernel
theorem dX8_odds_23 : decode cX8_odds 23 = .ok (.invokevirtual 278, 3) := by decide +kernel
theorem dX8_odds_26 : decode cX8_odds 26 = .ok (.iconst 0, 1) := by decide +kernel
theorem dX8_odds_27 : decode cX8_odds 27 = .ok (.istore_n 3, 1) := by decide +kernel
theorem dX8_odds_28 : decode cX8_odds 28 = .ok (.iconst 0, 1) := by decide +kernel
theorem dX8_odds_29 : decode cX8_odds 29 = .ok (.istore 4, 2) := by decide +kernel
theorem dX8_odds_31 : decode cX8_odds 31 = .ok (.aload_n 0, 1) := by decide +kernel
theorem dX8_odds_32 : decode cX8_odds 32 = .ok (.invokevirtual 302, 3) := by decide +kernel
theorem dX8_odds_35 : decode cX8_odds 35 = .ok (.iconst 1, 1) := by decide +kernel
theorem dX8_odds_36 : decode cX8_odds 36 = .ok (.istore 5, 2) := by decide +kernel
theorem dX8_odds_38 : decode cX8_odds 38 = .ok (.iload 5, 2) := by decide +kernel
theorem dX8_odds_40 : decode cX8_odds 40 = .ok (.ifCond .eq 59, 3) := by decide +kernel
theorem dX8_odds_43 : decode cX8_odds 43 = .ok (.aload_n 0, 1) := by decide +kernel
theorem dX8_odds_44 : decode cX8_odds 44 = .ok (.invokevirtual 305, 3) := by decide +kernel
theorem dX8_odds_47 : decode cX8_odds 47 = .ok (.istore 6, 2) := by decide +kernel
theorem dX8_odds_49 : decode cX8_odds 49 = .ok (.iload_n 3, 1) := by decide +kernel
theorem dX8_odds_50 : decode cX8_odds 50 = .ok (.iload 6, 2) := by decide +kernel
theorem dX8_odds_52 : decode cX8_odds 52 = .ok (.ifCond .eq 7, 3) := by decide +kernel
