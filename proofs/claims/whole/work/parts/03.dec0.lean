theorem dX0_init_0 : decode cX0_init 0 = .ok (.aload_n 0, 1) := by decide +kernel
theorem dX0_init_1 : decode cX0_init 1 = .ok (.invokespecial 3, 3) := by decide +kernel
theorem dX0_init_4 : decode cX0_init 4 = .ok (.aload_n 0, 1) := by decide +kernel
theorem dX0_init_5 : decode cX0_init 5 = .ok (.bipush 20, 2) := by decide +kernel
theorem dX0_init_7 : decode cX0_init 7 = .ok (.newarray .int, 2) := by decide +kernel
theorem dX0_init_9 : decode cX0_init 9 = .ok (.putfield 9, 3) := by decide +kernel
theorem dX0_init_12 : decode cX0_init 12 = .ok (.return_, 1) := by decide +kernel
theorem dX0_forget_0 : decode cX0_forget 0 = .ok (.aload_n 0, 1) := by decide +kernel
theorem dX0_forget_1 : decode cX0_forget 1 = .ok (.iconst 0, 1) := by decide +kernel
theorem dX0_forget_2 : decode cX0_forget 2 = .ok (.putfield 15, 3) := by decide +kernel
theorem dX0_forget_5 : decode cX0_forget 5 = .ok (.return_, 1) := by decide +kernel
theorem dX0_start_0 : decode cX0_start 0 = .ok (.aload_n 0, 1) := by decide +kernel
theorem dX0_start_1 : decode cX0_start 1 = .ok (.aload_n 1, 1) := by decide +kernel
theorem dX0_start_2 : decode cX0_start 2 = .ok (.iconst 0, 1) := by decide +kernel
theorem dX0_start_3 : decode cX0_start 3 = .ok (.iaload, 1) := by decide +kernel
theorem dX0_start_4 : decode cX0_start 4 = .ok (.putfield 19, 3) := by decide +kernel
theorem dX0_start_7 : decode cX0_start 7 = .ok (.aload_n 0, 1) := by decide +kernel
theorem dX0_start_8 : decode cX0_start 8 = .ok (.aload_n 1, 1) := by decide +kernel
theorem dX0_start_9 : decode cX0_start 9 = .ok (.iconst 1, 1) := by decide +kernel
theorem dX0_start_10 : decode cX0_start 10 = .ok (.iaload, 1) := by decide +kernel
theorem dX0_start_11 : decode cX0_start 11 = .ok (.putfield 22, 3) := by decide +kernel
theorem dX0_start_14 : decode cX0_start 14 = .ok (.aload_n 0, 1) := by decide +kernel
theorem dX0_start_15 : decode cX0_start 15 = .ok (.iload_n 2, 1) := by decide +kernel
theorem dX0_start_16 : decode cX0_start 16 = .ok (.putfield 25, 3) := by decide +kernel
theorem dX0_start_19 : decode cX0_start 19 = .ok (.aload_n 0, 1) := by decide +kernel
theorem dX0_start_20 : decode cX0_start 20 = .ok (.iload_n 3, 1) := by decide +kernel
theorem dX0_start_21 : decode cX0_start 21 = .ok (.aload_n 0, 1) := by decide +kernel
theorem dX0_start_22 : decode cX0_start 22 = .ok (.getfield 19, 3) := by decide +kernel
theorem dX0_start_25 : decode cX0_start 25 = .ok (.iload 4, 2) := by decide +kernel
theorem dX0_start_27 : decode cX0_start 27 = .ok (.iconst 0, 1) := by decide +kernel
theorem dX0_start_28 : decode cX0_start 28 = .ok (.invokevirtual 28, 3) := by decide +kernel
theorem dX0_start_31 : decode cX0_start 31 = .ok (.ireturn, 1) := by decide +kernel
theorem dX0_run_0 : decode cX0_run 0 = .ok (.iload 4, 2) := by decide +kernel
theorem dX0_run_2 : decode cX0_run 2 = .ok (.bipush 20, 2) := by decide +kernel
theorem dX0_run_4 : decode cX0_run 4 = .ok (.if_icmp .lt 5, 3) := by decide +kernel
theorem dX0_run_7 : decode cX0_run 7 = .ok (.iconst 0, 1) := by decide +kernel
theorem dX0_run_8 : decode cX0_run 8 = .ok (.ireturn, 1) := by decide +kernel
theorem dX0_run_9 : decode cX0_run 9 = .ok (.getstatic 32, 3) := by decide +kernel
theorem dX0_run_12 : decode cX0_run 12 = .ok (.iload_n 2, 1) := by decide +kernel
theorem dX0_run_13 : decode cX0_run 13 = .ok (.iconst 3, 1) := by decide +kernel
theorem dX0_run_14 : decode cX0_run 14 = .ok (.imul, 1) := by decide +kernel
theorem dX0_run_15 : decode cX0_run 15 = .ok (.iload_n 1, 1) := by decide +kernel
theorem dX0_run_16 : decode cX0_run 16 = .ok (.iadd, 1) := by decide +kernel
theorem dX0_run_17 : decode cX0_run 17 = .ok (.iaload, 1) := by decide +kernel
theorem dX0_run_18 : decode cX0_run 18 = .ok (.istore 5, 2) := by decide +kernel
theorem dX0_run_20 : decode cX0_run 20 = .ok (.aload_n 0, 1) := by decide +kernel
theorem dX0_run_21 : decode cX0_run 21 = .ok (.iload 5, 2) := by decide +kernel
theorem dX0_run_23 : decode cX0_run 23 = .ok (.invokevirtual 35, 3) := by decide +kernel
theorem dX0_run_26 : decode cX0_run 26 = .ok (.aload_n 0, 1) := by decide +kernel
theorem dX0_run_27 : decode cX0_run 27 = .ok (.iload 5, 2) := by decide +kernel
theorem dX0_run_29 : decode cX0_run 29 = .ok (.iload_n 3, 1) := by decide +kernel
theorem dX0_run_30 : decode cX0_run 30 = .ok (.iload 4, 2) := by decide +kernel
theorem dX0_run_32 : decode cX0_run 32 = .ok (.iconst 1, 1) := by decide +kernel
theorem dX0_run_33 : decode cX0_run 33 = .ok (.iadd, 1) := by decide +kernel
theorem dX0_run_34 : decode cX0_run 34 = .ok (.invokevirtual 39, 3) := by decide +kernel
theorem dX0_run_37 : decode cX0_run 37 = .ok (.ireturn, 1) := by decide +kernel
theorem dX0_done_0 : decode cX0_done 0 = .ok (.iload_n 1, 1) := by decide +kernel
theorem dX0_done_1 : decode cX0_done 1 = .ok (.lookupswitch 226 #[(10, 91), (11, 98), (12, 115), (20, 129), (30, 141), (40, 152), (50, 173), (51, 183), (60, 194), (70, 208)], 91) := by decide +kernel
theorem dX0_done_92 : decode cX0_done 92 = .ok (.iload_n 2, 1) := by decide +kernel
theorem dX0_done_93 : decode cX0_done 93 = .ok (.aload_n 0, 1) := by decide +kernel
theorem dX0_done_94 : decode cX0_done 94 = .ok (.getfield 25, 3) := by decide +kernel
theorem dX0_done_97 : decode cX0_done 97 = .ok (.iadd, 1) := by decide +kernel
theorem dX0_done_98 : decode cX0_done 98 = .ok (.ireturn, 1) := by decide +kernel
theorem dX0_done_99 : decode cX0_done 99 = .ok (.aload_n 0, 1) := by decide +kernel
theorem dX0_done_100 : decode cX0_done 100 = .ok (.iconst 0, 1) := by decide +kernel
theorem dX0_done_101 : decode cX0_done 101 = .ok (.aload_n 0, 1) := by decide +kernel
theorem dX0_done_102 : decode cX0_done 102 = .ok (.getfield 19, 3) := by decide +kernel
theorem dX0_done_105 : decode cX0_done 105 = .ok (.iload_n 2, 1) := by decide +kernel
theorem dX0_done_106 : decode cX0_done 106 = .ok (.iload_n 3, 1) := by decide +kernel
theorem dX0_done_107 : decode cX0_done 107 = .ok (.invokevirtual 28, 3) := by decide +kernel
theorem dX0_done_110 : decode cX0_done 110 = .ok (.aload_n 0, 1) := by decide +kernel
theorem dX0_done_111 : decode cX0_done 111 = .ok (.getfield 22, 3) := by decide +kernel
theorem dX0_done_114 : decode cX0_done 114 = .ok (.isub, 1) := by decide +kernel
theorem dX0_done_115 : decode cX0_done 115 = .ok (.ireturn, 1) := by decide +kernel
theorem dX0_done_116 : decode cX0_done 116 = .ok (.aload_n 0, 1) := by decide +kernel
theorem dX0_done_117 : decode cX0_done 117 = .ok (.iconst 1, 1) := by decide +kernel
theorem dX0_done_118 : decode cX0_done 118 = .ok (.aload_n 0, 1) := by decide +kernel
theorem dX0_done_119 : decode cX0_done 119 = .ok (.getfield 19, 3) := by decide +kernel
theorem dX0_done_122 : decode cX0_done 122 = .ok (.iload_n 2, 1) := by decide +kernel
theorem dX0_done_123 : decode cX0_done 123 = .ok (.iload_n 3, 1) := by decide +kernel
theorem dX0_done_124 : decode cX0_done 124 = .ok (.invokevirtual 28, 3) := by decide +kernel
theorem dX0_done_127 : decode cX0_done 127 = .ok (.iconst 2, 1) := by decide +kernel
theorem dX0_done_128 : decode cX0_done 128 = .ok (.imul, 1) := by decide +kernel
theorem dX0_done_129 : decode cX0_done 129 = .ok (.ireturn, 1) := by decide +kernel
theorem dX0_done_130 : decode cX0_done 130 = .ok (.aload_n 0, 1) := by decide +kernel
theorem dX0_done_131 : decode cX0_done 131 = .ok (.iconst 1, 1) := by decide +kernel
theorem dX0_done_132 : decode cX0_done 132 = .ok (.iconst 0, 1) := by decide +kernel
theorem dX0_done_133 : decode cX0_done 133 = .ok (.iload_n 2, 1) := by decide +kernel
theorem dX0_done_134 : decode cX0_done 134 = .ok (.iload_n 3, 1) := by decide +kernel
theorem dX0_done_135 : decode cX0_done 135 = .ok (.invokevirtual 28, 3) := by decide +kernel
theorem dX0_done_138 : decode cX0_done 138 = .ok (.bipush 6, 2) := by decide +kernel
theorem dX0_done_140 : decode cX0_done 140 = .ok (.ixor, 1) := by decide +kernel
theorem dX0_done_141 : decode cX0_done 141 = .ok (.ireturn, 1) := by decide +kernel
theorem dX0_done_142 : decode cX0_done 142 = .ok (.aload_n 0, 1) := by decide +kernel
theorem dX0_done_143 : decode cX0_done 143 = .ok (.iconst 0, 1) := by decide +kernel
theorem dX0_done_144 : decode cX0_done 144 = .ok (.iconst 0, 1) := by decide +kernel
theorem dX0_done_145 : decode cX0_done 145 = .ok (.iload_n 2, 1) := by decide +kernel
theorem dX0_done_146 : decode cX0_done 146 = .ok (.iconst 3, 1) := by decide +kernel
theorem dX0_done_147 : decode cX0_done 147 = .ok (.imul, 1) := by decide +kernel
theorem dX0_done_148 : decode cX0_done 148 = .ok (.iload_n 3, 1) := by decide +kernel
theorem dX0_done_149 : decode cX0_done 149 = .ok (.invokevirtual 28, 3) := by decide +kernel
theorem dX0_done_152 : decode cX0_done 152 = .ok (.ireturn, 1) := by decide +kernel
theorem dX0_done_153 : decode cX0_done 153 = .ok (.aload_n 0, 1) := by decide +kernel
theorem dX0_done_154 : decode cX0_done 154 = .ok (.iconst 2, 1) := by decide +kernel
theorem dX0_done_155 : decode cX0_done 155 = .ok (.iconst 0, 1) := by decide +kernel
theorem dX0_done_156 : decode cX0_done 156 = .ok (.iload_n 2, 1) := by decide +kernel
theorem dX0_done_157 : decode cX0_done 157 = .ok (.iload_n 3, 1) := by decide +kernel
theorem dX0_done_158 : decode cX0_done 158 = .ok (.invokevirtual 28, 3) := by decide +kernel
theorem dX0_done_161 : decode cX0_done 161 = .ok (.aload_n 0, 1) := by decide +kernel
theorem dX0_done_162 : decode cX0_done 162 = .ok (.iconst 1, 1) := by decide +kernel
theorem dX0_done_163 : decode cX0_done 163 = .ok (.aload_n 0, 1) := by decide +kernel
theorem dX0_done_164 : decode cX0_done 164 = .ok (.getfield 19, 3) := by decide +kernel
theorem dX0_done_167 : decode cX0_done 167 = .ok (.iconst 1, 1) := by decide +kernel
theorem dX0_done_168 : decode cX0_done 168 = .ok (.iload_n 3, 1) := by decide +kernel
theorem dX0_done_169 : decode cX0_done 169 = .ok (.invokevirtual 28, 3) := by decide +kernel
theorem dX0_done_172 : decode cX0_done 172 = .ok (.iadd, 1) := by decide +kernel
theorem dX0_done_173 : decode cX0_done 173 = .ok (.ireturn, 1) := by decide +kernel
theorem dX0_done_174 : decode cX0_done 174 = .ok (.aload_n 0, 1) := by decide +kernel
theorem dX0_done_175 : decode cX0_done 175 = .ok (.iconst 0, 1) := by decide +kernel
theorem dX0_done_176 : decode cX0_done 176 = .ok (.iconst 1, 1) := by decide +kernel
theorem dX0_done_177 : decode cX0_done 177 = .ok (.iload_n 2, 1) := by decide +kernel
theorem dX0_done_178 : decode cX0_done 178 = .ok (.iload_n 3, 1) := by decide +kernel
theorem dX0_done_179 : decode cX0_done 179 = .ok (.invokevirtual 28, 3) := by decide +kernel
theorem dX0_done_182 : decode cX0_done 182 = .ok (.ineg, 1) := by decide +kernel
theorem dX0_done_183 : decode cX0_done 183 = .ok (.ireturn, 1) := by decide +kernel
theorem dX0_done_184 : decode cX0_done 184 = .ok (.aload_n 0, 1) := by decide +kernel
theorem dX0_done_185 : decode cX0_done 185 = .ok (.iconst 1, 1) := by decide +kernel
theorem dX0_done_186 : decode cX0_done 186 = .ok (.iconst 1, 1) := by decide +kernel
theorem dX0_done_187 : decode cX0_done 187 = .ok (.iload_n 2, 1) := by decide +kernel
theorem dX0_done_188 : decode cX0_done 188 = .ok (.iconst 1, 1) := by decide +kernel
theorem dX0_done_189 : decode cX0_done 189 = .ok (.iadd, 1) := by decide +kernel
theorem dX0_done_190 : decode cX0_done 190 = .ok (.iload_n 3, 1) := by decide +kernel
theorem dX0_done_191 : decode cX0_done 191 = .ok (.invokevirtual 28, 3) := by decide +kernel
theorem dX0_done_194 : decode cX0_done 194 = .ok (.ireturn, 1) := by decide +kernel
theorem dX0_done_195 : decode cX0_done 195 = .ok (.aload_n 0, 1) := by decide +kernel
theorem dX0_done_196 : decode cX0_done 196 = .ok (.iconst 2, 1) := by decide +kernel
theorem dX0_done_197 : decode cX0_done 197 = .ok (.iconst 2, 1) := by decide +kernel
theorem dX0_done_198 : decode cX0_done 198 = .ok (.iload_n 2, 1) := by decide +kernel
theorem dX0_done_199 : decode cX0_done 199 = .ok (.aload_n 0, 1) := by decide +kernel
theorem dX0_done_200 : decode cX0_done 200 = .ok (.getfield 25, 3) := by decide +kernel
theorem dX0_done_203 : decode cX0_done 203 = .ok (.isub, 1) := by decide +kernel
theorem dX0_done_204 : decode cX0_done 204 = .ok (.iload_n 3, 1) := by decide +kernel
theorem dX0_done_205 : decode cX0_done 205 = .ok (.invokevirtual 28, 3) := by decide +kernel
theorem dX0_done_208 : decode cX0_done 208 = .ok (.ireturn, 1) := by decide +kernel
theorem dX0_done_209 : decode cX0_done 209 = .ok (.aload_n 0, 1) := by decide +kernel
theorem dX0_done_210 : decode cX0_done 210 = .ok (.iconst 1, 1) := by decide +kernel
theorem dX0_done_211 : decode cX0_done 211 = .ok (.iconst 3, 1) := by decide +kernel
theorem dX0_done_212 : decode cX0_done 212 = .ok (.iload_n 2, 1) := by decide +kernel
theorem dX0_done_213 : decode cX0_done 213 = .ok (.iload_n 3, 1) := by decide +kernel
theorem dX0_done_214 : decode cX0_done 214 = .ok (.invokevirtual 28, 3) := by decide +kernel
theorem dX0_done_217 : decode cX0_done 217 = .ok (.aload_n 0, 1) := by decide +kernel
theorem dX0_done_218 : decode cX0_done 218 = .ok (.iconst 0, 1) := by decide +kernel
theorem dX0_done_219 : decode cX0_done 219 = .ok (.iconst 3, 1) := by decide +kernel
theorem dX0_done_220 : decode cX0_done 220 = .ok (.iconst 2, 1) := by decide +kernel
theorem dX0_done_221 : decode cX0_done 221 = .ok (.iload_n 3, 1) := by decide +kernel
theorem dX0_done_222 : decode cX0_done 222 = .ok (.invokevirtual 28, 3) := by decide +kernel
theorem dX0_done_225 : decode cX0_done 225 = .ok (.iadd, 1) := by decide +kernel
theorem dX0_done_226 : decode cX0_done 226 = .ok (.ireturn, 1) := by decide +kernel
theorem dX0_done_227 : decode cX0_done 227 = .ok (.aload_n 0, 1) := by decide +kernel
theorem dX0_done_228 : decode cX0_done 228 = .ok (.iconst 0, 1) := by decide +kernel
theorem dX0_done_229 : decode cX0_done 229 = .ok (.iconst 3, 1) := by decide +kernel
theorem dX0_done_230 : decode cX0_done 230 = .ok (.iload_n 2, 1) := by decide +kernel
theorem dX0_done_231 : decode cX0_done 231 = .ok (.iload_n 3, 1) := by decide +kernel
theorem dX0_done_232 : decode cX0_done 232 = .ok (.invokevirtual 28, 3) := by decide +kernel
theorem dX0_done_235 : decode cX0_done 235 = .ok (.aload_n 0, 1) := by decide +kernel
theorem dX0_done_236 : decode cX0_done 236 = .ok (.getfield 22, 3) := by decide +kernel
theorem dX0_done_239 : decode cX0_done 239 = .ok (.ixor, 1) := by decide +kernel
theorem dX0_done_240 : decode cX0_done 240 = .ok (.ireturn, 1) := by decide +kernel
theorem dX0_begins_0 : decode cX0_begins 0 = .ok (.aload_n 0, 1) := by decide +kernel
theorem dX0_begins_1 : decode cX0_begins 1 = .ok (.getfield 15, 3) := by decide +kernel
theorem dX0_begins_4 : decode cX0_begins 4 = .ok (.bipush 20, 2) := by decide +kernel
theorem dX0_begins_6 : decode cX0_begins 6 = .ok (.if_icmp .ge 13, 3) := by decide +kernel
theorem dX0_begins_9 : decode cX0_begins 9 = .ok (.aload_n 0, 1) := by decide +kernel
theorem dX0_begins_10 : decode cX0_begins 10 = .ok (.getfield 9, 3) := by decide +kernel
theorem dX0_begins_13 : decode cX0_begins 13 = .ok (.aload_n 0, 1) := by decide +kernel
theorem dX0_begins_14 : decode cX0_begins 14 = .ok (.getfield 15, 3) := by decide +kernel
theorem dX0_begins_17 : decode cX0_begins 17 = .ok (.iload_n 1, 1) := by decide +kernel
theorem dX0_begins_18 : decode cX0_begins 18 = .ok (.iastore, 1) := by decide +kernel
theorem dX0_begins_19 : decode cX0_begins 19 = .ok (.aload_n 0, 1) := by decide +kernel
theorem dX0_begins_20 : decode cX0_begins 20 = .ok (.dup, 1) := by decide +kernel
theorem dX0_begins_21 : decode cX0_begins 21 = .ok (.getfield 15, 3) := by decide +kernel
theorem dX0_begins_24 : decode cX0_begins 24 = .ok (.iconst 1, 1) := by decide +kernel
theorem dX0_begins_25 : decode cX0_begins 25 = .ok (.iadd, 1) := by decide +kernel
theorem dX0_begins_26 : decode cX0_begins 26 = .ok (.putfield 15, 3) := by decide +kernel
theorem dX0_begins_29 : decode cX0_begins 29 = .ok (.return_, 1) := by decide +kernel
theorem dX1_init_0 : decode cX1_init 0 = .ok (.aload_n 0, 1) := by decide +kernel
theorem dX1_init_1 : decode cX1_init 1 = .ok (.invokespecial 3, 3) := by decide +kernel
theorem dX1_init_4 : decode cX1_init 4 = .ok (.aload_n 0, 1) := by decide +kernel
theorem dX1_init_5 : decode cX1_init 5 = .ok (.bipush 10, 2) := by decide +kernel
theorem dX1_init_7 : decode cX1_init 7 = .ok (.newarray .int, 2) := by decide +kernel
theorem dX1_init_9 : decode cX1_init 9 = .ok (.putfield 9, 3) := by decide +kernel
theorem dX1_init_12 : decode cX1_init 12 = .ok (.aload_n 0, 1) := by decide +kernel
theorem dX1_init_13 : decode cX1_init 13 = .ok (.bipush 10, 2) := by decide +kernel
theorem dX1_init_15 : decode cX1_init 15 = .ok (.newarray .int, 2) := by decide +kernel
theorem dX1_init_17 : decode cX1_init 17 = .ok (.putfield 15, 3) := by decide +kernel
theorem dX1_init_20 : decode cX1_init 20 = .ok (.aload_n 0, 1) := by decide +kernel
theorem dX1_init_21 : decode cX1_init 21 = .ok (.bipush 10, 2) := by decide +kernel
theorem dX1_init_23 : decode cX1_init 23 = .ok (.newarray .int, 2) := by decide +kernel
theorem dX1_init_25 : decode cX1_init 25 = .ok (.putfield 18, 3) := by decide +kernel
theorem dX1_init_28 : decode cX1_init 28 = .ok (.aload_n 0, 1) := by decide +kernel
theorem dX1_init_29 : decode cX1_init 29 = .ok (.bipush 100, 2) := by decide +kernel
theorem dX1_init_31 : decode cX1_init 31 = .ok (.newarray .int, 2) := by decide +kernel
theorem dX1_init_33 : decode cX1_init 33 = .ok (.putfield 21, 3) := by decide +kernel
theorem dX1_init_36 : decode cX1_init 36 = .ok (.return_, 1) := by decide +kernel
theorem dX1_clear_0 : decode cX1_clear 0 = .ok (.aload_n 0, 1) := by decide +kernel
theorem dX1_clear_1 : decode cX1_clear 1 = .ok (.iconst 0, 1) := by decide +kernel
theorem dX1_clear_2 : decode cX1_clear 2 = .ok (.putfield 24, 3) := by decide +kernel
theorem dX1_clear_5 : decode cX1_clear 5 = .ok (.aload_n 0, 1) := by decide +kernel
theorem dX1_clear_6 : decode cX1_clear 6 = .ok (.iconst 0, 1) := by decide +kernel
theorem dX1_clear_7 : decode cX1_clear 7 = .ok (.putfield 28, 3) := by decide +kernel
theorem dX1_clear_10 : decode cX1_clear 10 = .ok (.return_, 1) := by decide +kernel
theorem dX1_addCode_0 : decode cX1_addCode 0 = .ok (.aload_n 0, 1) := by decide +kernel
theorem dX1_addCode_1 : decode cX1_addCode 1 = .ok (.getfield 28, 3) := by decide +kernel
theorem dX1_addCode_4 : decode cX1_addCode 4 = .ok (.bipush 100, 2) := by decide +kernel
theorem dX1_addCode_6 : decode cX1_addCode 6 = .ok (.if_icmp .ge 23, 3) := by decide +kernel
theorem dX1_addCode_9 : decode cX1_addCode 9 = .ok (.aload_n 0, 1) := by decide +kernel
theorem dX1_addCode_10 : decode cX1_addCode 10 = .ok (.getfield 21, 3) := by decide +kernel
theorem dX1_addCode_13 : decode cX1_addCode 13 = .ok (.aload_n 0, 1) := by decide +kernel
theorem dX1_addCode_14 : decode cX1_addCode 14 = .ok (.getfield 28, 3) := by decide +kernel
theorem dX1_addCode_17 : decode cX1_addCode 17 = .ok (.iload_n 1, 1) := by decide +kernel
theorem dX1_addCode_18 : decode cX1_addCode 18 = .ok (.iastore, 1) := by decide +kernel
theorem dX1_addCode_19 : decode cX1_addCode 19 = .ok (.aload_n 0, 1) := by decide +kernel
theorem dX1_addCode_20 : decode cX1_addCode 20 = .ok (.dup, 1) := by decide +kernel
theorem dX1_addCode_21 : decode cX1_addCode 21 = .ok (.getfield 28, 3) := by decide +kernel
theorem dX1_addCode_24 : decode cX1_addCode 24 = .ok (.iconst 1, 1) := by decide +kernel
theorem dX1_addCode_25 : decode cX1_addCode 25 = .ok (.iadd, 1) := by decide +kernel
theorem dX1_addCode_26 : decode cX1_addCode 26 = .ok (.putfield 28, 3) := by decide +kernel
theorem dX1_addCode_29 : decode cX1_addCode 29 = .ok (.return_, 1) := by decide +kernel
theorem dX1_addClause_0 : decode cX1_addClause 0 = .ok (.aload_n 0, 1) := by decide +kernel
theorem dX1_addClause_1 : decode cX1_addClause 1 = .ok (.getfield 24, 3) := by decide +kernel
theorem dX1_addClause_4 : decode cX1_addClause 4 = .ok (.bipush 10, 2) := by decide +kernel
theorem dX1_addClause_6 : decode cX1_addClause 6 = .ok (.if_icmp .ge 46, 3) := by decide +kernel
theorem dX1_addClause_9 : decode cX1_addClause 9 = .ok (.aload_n 0, 1) := by decide +kernel
theorem dX1_addClause_10 : decode cX1_addClause 10 = .ok (.getfield 9, 3) := by decide +kernel
theorem dX1_addClause_13 : decode cX1_addClause 13 = .ok (.aload_n 0, 1) := by decide +kernel
theorem dX1_addClause_14 : decode cX1_addClause 14 = .ok (.getfield 24, 3) := by decide +kernel
theorem dX1_addClause_17 : decode cX1_addClause 17 = .ok (.iload_n 1, 1) := by decide +kernel
theorem dX1_addClause_18 : decode cX1_addClause 18 = .ok (.iastore, 1) := by decide +kernel
theorem dX1_addClause_19 : decode cX1_addClause 19 = .ok (.aload_n 0, 1) := by decide +kernel
theorem dX1_addClause_20 : decode cX1_addClause 20 = .ok (.getfield 15, 3) := by decide +kernel
theorem dX1_addClause_23 : decode cX1_addClause 23 = .ok (.aload_n 0, 1) := by decide +kernel
theorem dX1_addClause_24 : decode cX1_addClause 24 = .ok (.getfield 24, 3) := by decide +kernel
theorem dX1_addClause_27 : decode cX1_addClause 27 = .ok (.iload_n 2, 1) := by decide +kernel
theorem dX1_addClause_28 : decode cX1_addClause 28 = .ok (.iastore, 1) := by decide +kernel
theorem dX1_addClause_29 : decode cX1_addClause 29 = .ok (.aload_n 0, 1) := by decide +kernel
theorem dX1_addClause_30 : decode cX1_addClause 30 = .ok (.getfield 18, 3) := by decide +kernel
theorem dX1_addClause_33 : decode cX1_addClause 33 = .ok (.aload_n 0, 1) := by decide +kernel
theorem dX1_addClause_34 : decode cX1_addClause 34 = .ok (.getfield 24, 3) := by decide +kernel
theorem dX1_addClause_37 : decode cX1_addClause 37 = .ok (.aload_n 0, 1) := by decide +kernel
theorem dX1_addClause_38 : decode cX1_addClause 38 = .ok (.getfield 28, 3) := by decide +kernel
theorem dX1_addClause_41 : decode cX1_addClause 41 = .ok (.iastore, 1) := by decide +kernel
theorem dX1_addClause_42 : decode cX1_addClause 42 = .ok (.aload_n 0, 1) := by decide +kernel
theorem dX1_addClause_43 : decode cX1_addClause 43 = .ok (.dup, 1) := by decide +kernel
theorem dX1_addClause_44 : decode cX1_addClause 44 = .ok (.getfield 24, 3) := by decide +kernel
theorem dX1_addClause_47 : decode cX1_addClause 47 = .ok (.iconst 1, 1) := by decide +kernel
theorem dX1_addClause_48 : decode cX1_addClause 48 = .ok (.iadd, 1) := by decide +kernel
theorem dX1_addClause_49 : decode cX1_addClause 49 = .ok (.putfield 24, 3) := by decide +kernel
theorem dX1_addClause_52 : decode cX1_addClause 52 = .ok (.return_, 1) := by decide +kernel
theorem dX1_mostBeasts_0 : decode cX1_mostBeasts 0 = .ok (.bipush 8, 2) := by decide +kernel
theorem dX1_mostBeasts_2 : decode cX1_mostBeasts 2 = .ok (.istore_n 1, 1) := by decide +kernel
theorem dX1_mostBeasts_3 : decode cX1_mostBeasts 3 = .ok (.iconst 0, 1) := by decide +kernel
theorem dX1_mostBeasts_4 : decode cX1_mostBeasts 4 = .ok (.istore_n 2, 1) := by decide +kernel
theorem dX1_mostBeasts_5 : decode cX1_mostBeasts 5 = .ok (.iload_n 2, 1) := by decide +kernel
theorem dX1_mostBeasts_6 : decode cX1_mostBeasts 6 = .ok (.aload_n 0, 1) := by decide +kernel
theorem dX1_mostBeasts_7 : decode cX1_mostBeasts 7 = .ok (.getfield 24, 3) := by decide +kernel
theorem dX1_mostBeasts_10 : decode cX1_mostBeasts 10 = .ok (.if_icmp .ge 31, 3) := by decide +kernel
theorem dX1_mostBeasts_13 : decode cX1_mostBeasts 13 = .ok (.aload_n 0, 1) := by decide +kernel
theorem dX1_mostBeasts_14 : decode cX1_mostBeasts 14 = .ok (.getfield 9, 3) := by decide +kernel
theorem dX1_mostBeasts_17 : decode cX1_mostBeasts 17 = .ok (.iload_n 2, 1) := by decide +kernel
theorem dX1_mostBeasts_18 : decode cX1_mostBeasts 18 = .ok (.iaload, 1) := by decide +kernel
theorem dX1_mostBeasts_19 : decode cX1_mostBeasts 19 = .ok (.iconst 2, 1) := by decide +kernel
theorem dX1_mostBeasts_20 : decode cX1_mostBeasts 20 = .ok (.if_icmp .ne 15, 3) := by decide +kernel
theorem dX1_mostBeasts_23 : decode cX1_mostBeasts 23 = .ok (.aload_n 0, 1) := by decide +kernel
theorem dX1_mostBeasts_24 : decode cX1_mostBeasts 24 = .ok (.getfield 15, 3) := by decide +kernel
theorem dX1_mostBeasts_27 : decode cX1_mostBeasts 27 = .ok (.iload_n 2, 1) := by decide +kernel
theorem dX1_mostBeasts_28 : decode cX1_mostBeasts 28 = .ok (.iaload, 1) := by decide +kernel
theorem dX1_mostBeasts_29 : decode cX1_mostBeasts 29 = .ok (.bipush 9, 2) := by decide +kernel
theorem dX1_mostBeasts_31 : decode cX1_mostBeasts 31 = .ok (.invokestatic 31, 3) := by decide +kernel
theorem dX1_mostBeasts_34 : decode cX1_mostBeasts 34 = .ok (.istore_n 1, 1) := by decide +kernel
theorem dX1_mostBeasts_35 : decode cX1_mostBeasts 35 = .ok (.iinc 2 1, 3) := by decide +kernel
theorem dX1_mostBeasts_38 : decode cX1_mostBeasts 38 = .ok (.goto (-33), 3) := by decide +kernel
theorem dX1_mostBeasts_41 : decode cX1_mostBeasts 41 = .ok (.iload_n 1, 1) := by decide +kernel
theorem dX1_mostBeasts_42 : decode cX1_mostBeasts 42 = .ok (.ireturn, 1) := by decide +kernel
theorem dX1_sumOf_0 : decode cX1_sumOf 0 = .ok (.iconst 0, 1) := by decide +kernel
theorem dX1_sumOf_1 : decode cX1_sumOf 1 = .ok (.istore_n 3, 1) := by decide +kernel
theorem dX1_sumOf_2 : decode cX1_sumOf 2 = .ok (.iconst 0, 1) := by decide +kernel
theorem dX1_sumOf_3 : decode cX1_sumOf 3 = .ok (.istore 4, 2) := by decide +kernel
theorem dX1_sumOf_5 : decode cX1_sumOf 5 = .ok (.iload 4, 2) := by decide +kernel
theorem dX1_sumOf_7 : decode cX1_sumOf 7 = .ok (.aload_n 0, 1) := by decide +kernel
theorem dX1_sumOf_8 : decode cX1_sumOf 8 = .ok (.getfield 24, 3) := by decide +kernel
theorem dX1_sumOf_11 : decode cX1_sumOf 11 = .ok (.if_icmp .ge 40, 3) := by decide +kernel
theorem dX1_sumOf_14 : decode cX1_sumOf 14 = .ok (.aload_n 0, 1) := by decide +kernel
theorem dX1_sumOf_15 : decode cX1_sumOf 15 = .ok (.getfield 9, 3) := by decide +kernel
theorem dX1_sumOf_18 : decode cX1_sumOf 18 = .ok (.iload 4, 2) := by decide +kernel
theorem dX1_sumOf_20 : decode cX1_sumOf 20 = .ok (.iaload, 1) := by decide +kernel
theorem dX1_sumOf_21 : decode cX1_sumOf 21 = .ok (.iload_n 1, 1) := by decide +kernel
theorem dX1_sumOf_22 : decode cX1_sumOf 22 = .ok (.if_icmp .ne 23, 3) := by decide +kernel
theorem dX1_sumOf_25 : decode cX1_sumOf 25 = .ok (.aload_n 0, 1) := by decide +kernel
theorem dX1_sumOf_26 : decode cX1_sumOf 26 = .ok (.iload 4, 2) := by decide +kernel
theorem dX1_sumOf_28 : decode cX1_sumOf 28 = .ok (.aload_n 2, 1) := by decide +kernel
theorem dX1_sumOf_29 : decode cX1_sumOf 29 = .ok (.invokevirtual 37, 3) := by decide +kernel
theorem dX1_sumOf_32 : decode cX1_sumOf 32 = .ok (.ifCond .eq 13, 3) := by decide +kernel
theorem dX1_sumOf_35 : decode cX1_sumOf 35 = .ok (.iload_n 3, 1) := by decide +kernel
theorem dX1_sumOf_36 : decode cX1_sumOf 36 = .ok (.aload_n 0, 1) := by decide +kernel
theorem dX1_sumOf_37 : decode cX1_sumOf 37 = .ok (.getfield 15, 3) := by decide +kernel
theorem dX1_sumOf_40 : decode cX1_sumOf 40 = .ok (.iload 4, 2) := by decide +kernel
theorem dX1_sumOf_42 : decode cX1_sumOf 42 = .ok (.iaload, 1) := by decide +kernel
theorem dX1_sumOf_43 : decode cX1_sumOf 43 = .ok (.iadd, 1) := by decide +kernel
theorem dX1_sumOf_44 : decode cX1_sumOf 44 = .ok (.istore_n 3, 1) := by decide +kernel
theorem dX1_sumOf_45 : decode cX1_sumOf 45 = .ok (.iinc 4 1, 3) := by decide +kernel
theorem dX1_sumOf_48 : decode cX1_sumOf 48 = .ok (.goto (-43), 3) := by decide +kernel
theorem dX1_sumOf_51 : decode cX1_sumOf 51 = .ok (.iload_n 3, 1) := by decide +kernel
theorem dX1_sumOf_52 : decode cX1_sumOf 52 = .ok (.ireturn, 1) := by decide +kernel
theorem dX1_holds_0 : decode cX1_holds 0 = .ok (.iconst 0, 1) := by decide +kernel
theorem dX1_holds_1 : decode cX1_holds 1 = .ok (.istore_n 3, 1) := by decide +kernel
theorem dX1_holds_2 : decode cX1_holds 2 = .ok (.iload_n 1, 1) := by decide +kernel
theorem dX1_holds_3 : decode cX1_holds 3 = .ok (.ifCond .ne 7, 3) := by decide +kernel
theorem dX1_holds_6 : decode cX1_holds 6 = .ok (.iconst 0, 1) := by decide +kernel
theorem dX1_holds_7 : decode cX1_holds 7 = .ok (.goto 11, 3) := by decide +kernel
theorem dX1_holds_10 : decode cX1_holds 10 = .ok (.aload_n 0, 1) := by decide +kernel
theorem dX1_holds_11 : decode cX1_holds 11 = .ok (.getfield 18, 3) := by decide +kernel
theorem dX1_holds_14 : decode cX1_holds 14 = .ok (.iload_n 1, 1) := by decide +kernel
theorem dX1_holds_15 : decode cX1_holds 15 = .ok (.iconst 1, 1) := by decide +kernel
theorem dX1_holds_16 : decode cX1_holds 16 = .ok (.isub, 1) := by decide +kernel
theorem dX1_holds_17 : decode cX1_holds 17 = .ok (.iaload, 1) := by decide +kernel
theorem dX1_holds_18 : decode cX1_holds 18 = .ok (.istore 4, 2) := by decide +kernel
theorem dX1_holds_20 : decode cX1_holds 20 = .ok (.iload 4, 2) := by decide +kernel
theorem dX1_holds_22 : decode cX1_holds 22 = .ok (.aload_n 0, 1) := by decide +kernel
theorem dX1_holds_23 : decode cX1_holds 23 = .ok (.getfield 18, 3) := by decide +kernel
theorem dX1_holds_26 : decode cX1_holds 26 = .ok (.iload_n 1, 1) := by decide +kernel
theorem dX1_holds_27 : decode cX1_holds 27 = .ok (.iaload, 1) := by decide +kernel
theorem dX1_holds_28 : decode cX1_holds 28 = .ok (.if_icmp .ge 100, 3) := by decide +kernel
theorem dX1_holds_31 : decode cX1_holds 31 = .ok (.iload_n 3, 1) := by decide +kernel
theorem dX1_holds_32 : decode cX1_holds 32 = .ok (.iconst 1, 1) := by decide +kernel
theorem dX1_holds_33 : decode cX1_holds 33 = .ok (.iand, 1) := by decide +kernel
theorem dX1_holds_34 : decode cX1_holds 34 = .ok (.istore 5, 2) := by decide +kernel
theorem dX1_holds_36 : decode cX1_holds 36 = .ok (.aload_n 0, 1) := by decide +kernel
theorem dX1_holds_37 : decode cX1_holds 37 = .ok (.getfield 21, 3) := by decide +kernel
theorem dX1_holds_40 : decode cX1_holds 40 = .ok (.iload 4, 2) := by decide +kernel
theorem dX1_holds_42 : decode cX1_holds 42 = .ok (.iaload, 1) := by decide +kernel
theorem dX1_holds_43 : decode cX1_holds 43 = .ok (.tableswitch 55 (-3) (-1) #[45, 32, 25], 25) := by decide +kernel
theorem dX1_holds_68 : decode cX1_holds 68 = .ok (.iload_n 3, 1) := by decide +kernel
theorem dX1_holds_69 : decode cX1_holds 69 = .ok (.iconst 1, 1) := by decide +kernel
theorem dX1_holds_70 : decode cX1_holds 70 = .ok (.ixor, 1) := by decide +kernel
theorem dX1_holds_71 : decode cX1_holds 71 = .ok (.istore_n 3, 1) := by decide +kernel
theorem dX1_holds_72 : decode cX1_holds 72 = .ok (.goto 50, 3) := by decide +kernel
theorem dX1_holds_75 : decode cX1_holds 75 = .ok (.iload_n 3, 1) := by decide +kernel
theorem dX1_holds_76 : decode cX1_holds 76 = .ok (.iconst 1, 1) := by decide +kernel
theorem dX1_holds_77 : decode cX1_holds 77 = .ok (.iushr, 1) := by decide +kernel
theorem dX1_holds_78 : decode cX1_holds 78 = .ok (.iload 5, 2) := by decide +kernel
theorem dX1_holds_80 : decode cX1_holds 80 = .ok (.bipush (-2), 2) := by decide +kernel
theorem dX1_holds_82 : decode cX1_holds 82 = .ok (.ior, 1) := by decide +kernel
theorem dX1_holds_83 : decode cX1_holds 83 = .ok (.iand, 1) := by decide +kernel
theorem dX1_holds_84 : decode cX1_holds 84 = .ok (.istore_n 3, 1) := by decide +kernel
theorem dX1_holds_85 : decode cX1_holds 85 = .ok (.goto 37, 3) := by decide +kernel
theorem dX1_holds_88 : decode cX1_holds 88 = .ok (.iload_n 3, 1) := by decide +kernel
theorem dX1_holds_89 : decode cX1_holds 89 = .ok (.iconst 1, 1) := by decide +kernel
theorem dX1_holds_90 : decode cX1_holds 90 = .ok (.iushr, 1) := by decide +kernel
theorem dX1_holds_91 : decode cX1_holds 91 = .ok (.iload 5, 2) := by decide +kernel
theorem dX1_holds_93 : decode cX1_holds 93 = .ok (.ior, 1) := by decide +kernel
theorem dX1_holds_94 : decode cX1_holds 94 = .ok (.istore_n 3, 1) := by decide +kernel
theorem dX1_holds_95 : decode cX1_holds 95 = .ok (.goto 27, 3) := by decide +kernel
theorem dX1_holds_98 : decode cX1_holds 98 = .ok (.iload_n 3, 1) := by decide +kernel
theorem dX1_holds_99 : decode cX1_holds 99 = .ok (.iconst 1, 1) := by decide +kernel
theorem dX1_holds_100 : decode cX1_holds 100 = .ok (.ishl, 1) := by decide +kernel
theorem dX1_holds_101 : decode cX1_holds 101 = .ok (.aload_n 0, 1) := by decide +kernel
theorem dX1_holds_102 : decode cX1_holds 102 = .ok (.getfield 21, 3) := by decide +kernel
theorem dX1_holds_105 : decode cX1_holds 105 = .ok (.iload 4, 2) := by decide +kernel
theorem dX1_holds_107 : decode cX1_holds 107 = .ok (.iaload, 1) := by decide +kernel
theorem dX1_holds_108 : decode cX1_holds 108 = .ok (.aload_n 2, 1) := by decide +kernel
theorem dX1_holds_109 : decode cX1_holds 109 = .ok (.invokestatic 41, 3) := by decide +kernel
theorem dX1_holds_112 : decode cX1_holds 112 = .ok (.ifCond .eq 7, 3) := by decide +kernel
theorem dX1_holds_115 : decode cX1_holds 115 = .ok (.iconst 1, 1) := by decide +kernel
theorem dX1_holds_116 : decode cX1_holds 116 = .ok (.goto 4, 3) := by decide +kernel
theorem dX1_holds_119 : decode cX1_holds 119 = .ok (.iconst 0, 1) := by decide +kernel
theorem dX1_holds_120 : decode cX1_holds 120 = .ok (.ior, 1) := by decide +kernel
theorem dX1_holds_121 : decode cX1_holds 121 = .ok (.istore_n 3, 1) := by decide +kernel
theorem dX1_holds_122 : decode cX1_holds 122 = .ok (.iinc 4 1, 3) := by decide +kernel
theorem dX1_holds_125 : decode cX1_holds 125 = .ok (.goto (-105), 3) := by decide +kernel
theorem dX1_holds_128 : decode cX1_holds 128 = .ok (.iload_n 3, 1) := by decide +kernel
theorem dX1_holds_129 : decode cX1_holds 129 = .ok (.iconst 1, 1) := by decide +kernel
theorem dX1_holds_130 : decode cX1_holds 130 = .ok (.iand, 1) := by decide +kernel
theorem dX1_holds_131 : decode cX1_holds 131 = .ok (.iconst 1, 1) := by decide +kernel
theorem dX1_holds_132 : decode cX1_holds 132 = .ok (.if_icmp .ne 7, 3) := by decide +kernel
theorem dX1_holds_135 : decode cX1_holds 135 = .ok (.iconst 1, 1) := by decide +kernel
theorem dX1_holds_136 : decode cX1_holds 136 = .ok (.goto 4, 3) := by decide +kernel
theorem dX1_holds_139 : decode cX1_holds 139 = .ok (.iconst 0, 1) := by decide +kernel
theorem dX1_holds_140 : decode cX1_holds 140 = .ok (.ireturn, 1) := by decide +kernel
theorem dX1_testCode_0 : decode cX1_testCode 0 = .ok (.iload_n 0, 1) := by decide +kernel
theorem dX1_testCode_1 : decode cX1_testCode 1 = .ok (.iconst 3, 1) := by decide +kernel
theorem dX1_testCode_2 : decode cX1_testCode 2 = .ok (.imul, 1) := by decide +kernel
theorem dX1_testCode_3 : decode cX1_testCode 3 = .ok (.iload_n 1, 1) := by decide +kernel
theorem dX1_testCode_4 : decode cX1_testCode 4 = .ok (.iadd, 1) := by decide +kernel
theorem dX1_testCode_5 : decode cX1_testCode 5 = .ok (.bipush 100, 2) := by decide +kernel
theorem dX1_testCode_7 : decode cX1_testCode 7 = .ok (.imul, 1) := by decide +kernel
theorem dX1_testCode_8 : decode cX1_testCode 8 = .ok (.iload_n 2, 1) := by decide +kernel
theorem dX1_testCode_9 : decode cX1_testCode 9 = .ok (.iadd, 1) := by decide +kernel
theorem dX1_testCode_10 : decode cX1_testCode 10 = .ok (.ireturn, 1) := by decide +kernel
theorem dX1_testHolds_0 : decode cX1_testHolds 0 = .ok (.aload_n 1, 1) := by decide +kernel
theorem dX1_testHolds_1 : decode cX1_testHolds 1 = .ok (.iload_n 0, 1) := by decide +kernel
theorem dX1_testHolds_2 : decode cX1_testHolds 2 = .ok (.sipush 300, 3) := by decide +kernel
theorem dX1_testHolds_5 : decode cX1_testHolds 5 = .ok (.idiv, 1) := by decide +kernel
theorem dX1_testHolds_6 : decode cX1_testHolds 6 = .ok (.iaload, 1) := by decide +kernel
theorem dX1_testHolds_7 : decode cX1_testHolds 7 = .ok (.istore_n 2, 1) := by decide +kernel
theorem dX1_testHolds_8 : decode cX1_testHolds 8 = .ok (.iload_n 0, 1) := by decide +kernel
theorem dX1_testHolds_9 : decode cX1_testHolds 9 = .ok (.bipush 100, 2) := by decide +kernel
theorem dX1_testHolds_11 : decode cX1_testHolds 11 = .ok (.irem, 1) := by decide +kernel
theorem dX1_testHolds_12 : decode cX1_testHolds 12 = .ok (.istore_n 3, 1) := by decide +kernel
theorem dX1_testHolds_13 : decode cX1_testHolds 13 = .ok (.iload_n 0, 1) := by decide +kernel
theorem dX1_testHolds_14 : decode cX1_testHolds 14 = .ok (.bipush 100, 2) := by decide +kernel
theorem dX1_testHolds_16 : decode cX1_testHolds 16 = .ok (.idiv, 1) := by decide +kernel
theorem dX1_testHolds_17 : decode cX1_testHolds 17 = .ok (.iconst 3, 1) := by decide +kernel
theorem dX1_testHolds_18 : decode cX1_testHolds 18 = .ok (.irem, 1) := by decide +kernel
theorem dX1_testHolds_19 : decode cX1_testHolds 19 = .ok (.lookupswitch 47 #[(0, 25), (1, 36)], 25) := by decide +kernel
theorem dX1_testHolds_44 : decode cX1_testHolds 44 = .ok (.iload_n 2, 1) := by decide +kernel
theorem dX1_testHolds_45 : decode cX1_testHolds 45 = .ok (.iload_n 3, 1) := by decide +kernel
theorem dX1_testHolds_46 : decode cX1_testHolds 46 = .ok (.if_icmp .ge 7, 3) := by decide +kernel
theorem dX1_testHolds_49 : decode cX1_testHolds 49 = .ok (.iconst 1, 1) := by decide +kernel
theorem dX1_testHolds_50 : decode cX1_testHolds 50 = .ok (.goto 4, 3) := by decide +kernel
theorem dX1_testHolds_53 : decode cX1_testHolds 53 = .ok (.iconst 0, 1) := by decide +kernel
theorem dX1_testHolds_54 : decode cX1_testHolds 54 = .ok (.ireturn, 1) := by decide +kernel
theorem dX1_testHolds_55 : decode cX1_testHolds 55 = .ok (.iload_n 2, 1) := by decide +kernel
theorem dX1_testHolds_56 : decode cX1_testHolds 56 = .ok (.iload_n 3, 1) := by decide +kernel
theorem dX1_testHolds_57 : decode cX1_testHolds 57 = .ok (.if_icmp .ne 7, 3) := by decide +kernel
theorem dX1_testHolds_60 : decode cX1_testHolds 60 = .ok (.iconst 1, 1) := by decide +kernel
theorem dX1_testHolds_61 : decode cX1_testHolds 61 = .ok (.goto 4, 3) := by decide +kernel
theorem dX1_testHolds_64 : decode cX1_testHolds 64 = .ok (.iconst 0, 1) := by decide +kernel
theorem dX1_testHolds_65 : decode cX1_testHolds 65 = .ok (.ireturn, 1) := by decide +kernel
theorem dX1_testHolds_66 : decode cX1_testHolds 66 = .ok (.iload_n 2, 1) := by decide +kernel
theorem dX1_testHolds_67 : decode cX1_testHolds 67 = .ok (.iload_n 3, 1) := by decide +kernel
theorem dX1_testHolds_68 : decode cX1_testHolds 68 = .ok (.if_icmp .le 7, 3) := by decide +kernel
theorem dX1_testHolds_71 : decode cX1_testHolds 71 = .ok (.iconst 1, 1) := by decide +kernel
theorem dX1_testHolds_72 : decode cX1_testHolds 72 = .ok (.goto 4, 3) := by decide +kernel
theorem dX1_testHolds_75 : decode cX1_testHolds 75 = .ok (.iconst 0, 1) := by decide +kernel
theorem dX1_testHolds_76 : decode cX1_testHolds 76 = .ok (.ireturn, 1) := by decide +kernel
theorem dX2_init_0 : decode cX2_init 0 = .ok (.aload_n 0, 1) := by decide +kernel
theorem dX2_init_1 : decode cX2_init 1 = .ok (.invokespecial 3, 3) := by decide +kernel
theorem dX2_init_4 : decode cX2_init 4 = .ok (.aload_n 0, 1) := by decide +kernel
theorem dX2_init_5 : decode cX2_init 5 = .ok (.bipush 100, 2) := by decide +kernel
theorem dX2_init_7 : decode cX2_init 7 = .ok (.newarray .byte, 2) := by decide +kernel
theorem dX2_init_9 : decode cX2_init 9 = .ok (.putfield 9, 3) := by decide +kernel
theorem dX2_init_12 : decode cX2_init 12 = .ok (.return_, 1) := by decide +kernel
theorem dX2_add_0 : decode cX2_add 0 = .ok (.aload_n 0, 1) := by decide +kernel
theorem dX2_add_1 : decode cX2_add 1 = .ok (.getfield 15, 3) := by decide +kernel
theorem dX2_add_4 : decode cX2_add 4 = .ok (.bipush 100, 2) := by decide +kernel
theorem dX2_add_6 : decode cX2_add 6 = .ok (.if_icmp .ge 24, 3) := by decide +kernel
theorem dX2_add_9 : decode cX2_add 9 = .ok (.aload_n 0, 1) := by decide +kernel
theorem dX2_add_10 : decode cX2_add 10 = .ok (.getfield 9, 3) := by decide +kernel
theorem dX2_add_13 : decode cX2_add 13 = .ok (.aload_n 0, 1) := by decide +kernel
theorem dX2_add_14 : decode cX2_add 14 = .ok (.getfield 15, 3) := by decide +kernel
theorem dX2_add_17 : decode cX2_add 17 = .ok (.iload_n 1, 1) := by decide +kernel
theorem dX2_add_18 : decode cX2_add 18 = .ok (.i2b, 1) := by decide +kernel
theorem dX2_add_19 : decode cX2_add 19 = .ok (.bastore, 1) := by decide +kernel
theorem dX2_add_20 : decode cX2_add 20 = .ok (.aload_n 0, 1) := by decide +kernel
theorem dX2_add_21 : decode cX2_add 21 = .ok (.dup, 1) := by decide +kernel
theorem dX2_add_22 : decode cX2_add 22 = .ok (.getfield 15, 3) := by decide +kernel
theorem dX2_add_25 : decode cX2_add 25 = .ok (.iconst 1, 1) := by decide +kernel
theorem dX2_add_26 : decode cX2_add 26 = .ok (.iadd, 1) := by decide +kernel
theorem dX2_add_27 : decode cX2_add 27 = .ok (.putfield 15, 3) := by decide +kernel
theorem dX2_add_30 : decode cX2_add 30 = .ok (.return_, 1) := by decide +kernel
theorem dX2_readInto_0 : decode cX2_readInto 0 = .ok (.aload_n 0, 1) := by decide +kernel
theorem dX2_readInto_1 : decode cX2_readInto 1 = .ok (.aload_n 1, 1) := by decide +kernel
theorem dX2_readInto_2 : decode cX2_readInto 2 = .ok (.putfield 19, 3) := by decide +kernel
theorem dX2_readInto_5 : decode cX2_readInto 5 = .ok (.aload_n 0, 1) := by decide +kernel
theorem dX2_readInto_6 : decode cX2_readInto 6 = .ok (.getfield 19, 3) := by decide +kernel
theorem dX2_readInto_9 : decode cX2_readInto 9 = .ok (.invokevirtual 23, 3) := by decide +kernel
theorem dX2_readInto_12 : decode cX2_readInto 12 = .ok (.aload_n 0, 1) := by decide +kernel
theorem dX2_readInto_13 : decode cX2_readInto 13 = .ok (.iconst 0, 1) := by decide +kernel
theorem dX2_readInto_14 : decode cX2_readInto 14 = .ok (.putfield 28, 3) := by decide +kernel
theorem dX2_readInto_17 : decode cX2_readInto 17 = .ok (.aload_n 0, 1) := by decide +kernel
theorem dX2_readInto_18 : decode cX2_readInto 18 = .ok (.iconst 0, 1) := by decide +kernel
theorem dX2_readInto_19 : decode cX2_readInto 19 = .ok (.putfield 31, 3) := by decide +kernel
theorem dX2_readInto_22 : decode cX2_readInto 22 = .ok (.iconst 0, 1) := by decide +kernel
theorem dX2_readInto_23 : decode cX2_readInto 23 = .ok (.istore_n 2, 1) := by decide +kernel
theorem dX2_readInto_24 : decode cX2_readInto 24 = .ok (.iload_n 2, 1) := by decide +kernel
theorem dX2_readInto_25 : decode cX2_readInto 25 = .ok (.bipush 10, 2) := by decide +kernel
theorem dX2_readInto_27 : decode cX2_readInto 27 = .ok (.if_icmp .ge 51, 3) := by decide +kernel
theorem dX2_readInto_30 : decode cX2_readInto 30 = .ok (.aload_n 0, 1) := by decide +kernel
theorem dX2_readInto_31 : decode cX2_readInto 31 = .ok (.invokevirtual 35, 3) := by decide +kernel
theorem dX2_readInto_34 : decode cX2_readInto 34 = .ok (.aload_n 0, 1) := by decide +kernel
theorem dX2_readInto_35 : decode cX2_readInto 35 = .ok (.getfield 31, 3) := by decide +kernel
theorem dX2_readInto_38 : decode cX2_readInto 38 = .ok (.ifCond .ne 16, 3) := by decide +kernel
theorem dX2_readInto_41 : decode cX2_readInto 41 = .ok (.aload_n 0, 1) := by decide +kernel
theorem dX2_readInto_42 : decode cX2_readInto 42 = .ok (.getfield 28, 3) := by decide +kernel
theorem dX2_readInto_45 : decode cX2_readInto 45 = .ok (.aload_n 0, 1) := by decide +kernel
theorem dX2_readInto_46 : decode cX2_readInto 46 = .ok (.getfield 15, 3) := by decide +kernel
theorem dX2_readInto_49 : decode cX2_readInto 49 = .ok (.if_icmp .ne 5, 3) := by decide +kernel
theorem dX2_readInto_52 : decode cX2_readInto 52 = .ok (.iconst (-1), 1) := by decide +kernel
theorem dX2_readInto_53 : decode cX2_readInto 53 = .ok (.ireturn, 1) := by decide +kernel
theorem dX2_readInto_54 : decode cX2_readInto 54 = .ok (.iload_n 2, 1) := by decide +kernel
theorem dX2_readInto_55 : decode cX2_readInto 55 = .ok (.bipush 9, 2) := by decide +kernel
theorem dX2_readInto_57 : decode cX2_readInto 57 = .ok (.if_icmp .eq 21, 3) := by decide +kernel
theorem dX2_readInto_60 : decode cX2_readInto 60 = .ok (.aload_n 0, 1) := by decide +kernel
theorem dX2_readInto_61 : decode cX2_readInto 61 = .ok (.bipush 59, 2) := by decide +kernel
theorem dX2_readInto_63 : decode cX2_readInto 63 = .ok (.invokevirtual 38, 3) := by decide +kernel
theorem dX2_readInto_66 : decode cX2_readInto 66 = .ok (.ifCond .ne 6, 3) := by decide +kernel
theorem dX2_readInto_69 : decode cX2_readInto 69 = .ok (.goto 9, 3) := by decide +kernel
theorem dX2_readInto_72 : decode cX2_readInto 72 = .ok (.iinc 2 1, 3) := by decide +kernel
theorem dX2_readInto_75 : decode cX2_readInto 75 = .ok (.goto (-51), 3) := by decide +kernel
theorem dX2_readInto_78 : decode cX2_readInto 78 = .ok (.aload_n 0, 1) := by decide +kernel
theorem dX2_readInto_79 : decode cX2_readInto 79 = .ok (.getfield 28, 3) := by decide +kernel
theorem dX2_readInto_82 : decode cX2_readInto 82 = .ok (.ireturn, 1) := by decide +kernel
theorem dX2_readClause_0 : decode cX2_readClause 0 = .ok (.aload_n 0, 1) := by decide +kernel
theorem dX2_readClause_1 : decode cX2_readClause 1 = .ok (.bipush 111, 2) := by decide +kernel
theorem dX2_readClause_3 : decode cX2_readClause 3 = .ok (.invokevirtual 42, 3) := by decide +kernel
theorem dX2_readClause_6 : decode cX2_readClause 6 = .ok (.ifCond .eq 7, 3) := by decide +kernel
theorem dX2_readClause_9 : decode cX2_readClause 9 = .ok (.iconst 0, 1) := by decide +kernel
theorem dX2_readClause_10 : decode cX2_readClause 10 = .ok (.goto 17, 3) := by decide +kernel
theorem dX2_readClause_13 : decode cX2_readClause 13 = .ok (.aload_n 0, 1) := by decide +kernel
theorem dX2_readClause_14 : decode cX2_readClause 14 = .ok (.bipush 115, 2) := by decide +kernel
theorem dX2_readClause_16 : decode cX2_readClause 16 = .ok (.invokevirtual 42, 3) := by decide +kernel
theorem dX2_readClause_19 : decode cX2_readClause 19 = .ok (.ifCond .eq 7, 3) := by decide +kernel
theorem dX2_readClause_22 : decode cX2_readClause 22 = .ok (.iconst 1, 1) := by decide +kernel
theorem dX2_readClause_23 : decode cX2_readClause 23 = .ok (.goto 4, 3) := by decide +kernel
theorem dX2_readClause_26 : decode cX2_readClause 26 = .ok (.iconst 2, 1) := by decide +kernel
theorem dX2_readClause_27 : decode cX2_readClause 27 = .ok (.istore_n 1, 1) := by decide +kernel
theorem dX2_readClause_28 : decode cX2_readClause 28 = .ok (.aload_n 0, 1) := by decide +kernel
theorem dX2_readClause_29 : decode cX2_readClause 29 = .ok (.iload_n 1, 1) := by decide +kernel
theorem dX2_readClause_30 : decode cX2_readClause 30 = .ok (.ifCond .ne 8, 3) := by decide +kernel
theorem dX2_readClause_33 : decode cX2_readClause 33 = .ok (.ldc 45, 2) := by decide +kernel
theorem dX2_readClause_35 : decode cX2_readClause 35 = .ok (.goto 15, 3) := by decide +kernel
theorem dX2_readClause_38 : decode cX2_readClause 38 = .ok (.iload_n 1, 1) := by decide +kernel
theorem dX2_readClause_39 : decode cX2_readClause 39 = .ok (.iconst 1, 1) := by decide +kernel
theorem dX2_readClause_40 : decode cX2_readClause 40 = .ok (.if_icmp .ne 8, 3) := by decide +kernel
theorem dX2_readClause_43 : decode cX2_readClause 43 = .ok (.ldc 47, 2) := by decide +kernel
theorem dX2_readClause_45 : decode cX2_readClause 45 = .ok (.goto 5, 3) := by decide +kernel
theorem dX2_readClause_48 : decode cX2_readClause 48 = .ok (.ldc 49, 2) := by decide +kernel
theorem dX2_readClause_50 : decode cX2_readClause 50 = .ok (.invokevirtual 51, 3) := by decide +kernel
theorem dX2_readClause_53 : decode cX2_readClause 53 = .ok (.aload_n 0, 1) := by decide +kernel
theorem dX2_readClause_54 : decode cX2_readClause 54 = .ok (.invokevirtual 55, 3) := by decide +kernel
theorem dX2_readClause_57 : decode cX2_readClause 57 = .ok (.istore_n 2, 1) := by decide +kernel
theorem dX2_readClause_58 : decode cX2_readClause 58 = .ok (.iload_n 1, 1) := by decide +kernel
theorem dX2_readClause_59 : decode cX2_readClause 59 = .ok (.iconst 2, 1) := by decide +kernel
theorem dX2_readClause_60 : decode cX2_readClause 60 = .ok (.if_icmp .eq 14, 3) := by decide +kernel
theorem dX2_readClause_63 : decode cX2_readClause 63 = .ok (.aload_n 0, 1) := by decide +kernel
theorem dX2_readClause_64 : decode cX2_readClause 64 = .ok (.ldc 59, 2) := by decide +kernel
theorem dX2_readClause_66 : decode cX2_readClause 66 = .ok (.invokevirtual 51, 3) := by decide +kernel
theorem dX2_readClause_69 : decode cX2_readClause 69 = .ok (.aload_n 0, 1) := by decide +kernel
theorem dX2_readClause_70 : decode cX2_readClause 70 = .ok (.iconst 0, 1) := by decide +kernel
theorem dX2_readClause_71 : decode cX2_readClause 71 = .ok (.invokevirtual 61, 3) := by decide +kernel
theorem dX2_readClause_74 : decode cX2_readClause 74 = .ok (.aload_n 0, 1) := by decide +kernel
theorem dX2_readClause_75 : decode cX2_readClause 75 = .ok (.getfield 19, 3) := by decide +kernel
theorem dX2_readClause_78 : decode cX2_readClause 78 = .ok (.iload_n 1, 1) := by decide +kernel
theorem dX2_readClause_79 : decode cX2_readClause 79 = .ok (.iload_n 2, 1) := by decide +kernel
theorem dX2_readClause_80 : decode cX2_readClause 80 = .ok (.invokevirtual 65, 3) := by decide +kernel
theorem dX2_readClause_83 : decode cX2_readClause 83 = .ok (.return_, 1) := by decide +kernel
theorem dX2_readEither_0 : decode cX2_readEither 0 = .ok (.iconst 0, 1) := by decide +kernel
theorem dX2_readEither_1 : decode cX2_readEither 1 = .ok (.istore_n 2, 1) := by decide +kernel
theorem dX2_readEither_2 : decode cX2_readEither 2 = .ok (.iload_n 2, 1) := by decide +kernel
theorem dX2_readEither_3 : decode cX2_readEither 3 = .ok (.ifCond .eq 18, 3) := by decide +kernel
theorem dX2_readEither_6 : decode cX2_readEither 6 = .ok (.iload_n 2, 1) := by decide +kernel
theorem dX2_readEither_7 : decode cX2_readEither 7 = .ok (.bipush 100, 2) := by decide +kernel
theorem dX2_readEither_9 : decode cX2_readEither 9 = .ok (.if_icmp .ge 73, 3) := by decide +kernel
theorem dX2_readEither_12 : decode cX2_readEither 12 = .ok (.aload_n 0, 1) := by decide +kernel
theorem dX2_readEither_13 : decode cX2_readEither 13 = .ok (.bipush 124, 2) := by decide +kernel
theorem dX2_readEither_15 : decode cX2_readEither 15 = .ok (.invokevirtual 38, 3) := by decide +kernel
theorem dX2_readEither_18 : decode cX2_readEither 18 = .ok (.ifCond .eq 64, 3) := by decide +kernel
theorem dX2_readEither_21 : decode cX2_readEither 21 = .ok (.aload_n 0, 1) := by decide +kernel
theorem dX2_readEither_22 : decode cX2_readEither 22 = .ok (.iload_n 1, 1) := by decide +kernel
theorem dX2_readEither_23 : decode cX2_readEither 23 = .ok (.invokevirtual 69, 3) := by decide +kernel
theorem dX2_readEither_26 : decode cX2_readEither 26 = .ok (.iconst 0, 1) := by decide +kernel
theorem dX2_readEither_27 : decode cX2_readEither 27 = .ok (.istore_n 3, 1) := by decide +kernel
theorem dX2_readEither_28 : decode cX2_readEither 28 = .ok (.iload_n 3, 1) := by decide +kernel
theorem dX2_readEither_29 : decode cX2_readEither 29 = .ok (.bipush 100, 2) := by decide +kernel
theorem dX2_readEither_31 : decode cX2_readEither 31 = .ok (.if_icmp .ge 32, 3) := by decide +kernel
theorem dX2_readEither_34 : decode cX2_readEither 34 = .ok (.aload_n 0, 1) := by decide +kernel
theorem dX2_readEither_35 : decode cX2_readEither 35 = .ok (.bipush 38, 2) := by decide +kernel
theorem dX2_readEither_37 : decode cX2_readEither 37 = .ok (.invokevirtual 38, 3) := by decide +kernel
theorem dX2_readEither_40 : decode cX2_readEither 40 = .ok (.ifCond .eq 23, 3) := by decide +kernel
theorem dX2_readEither_43 : decode cX2_readEither 43 = .ok (.aload_n 0, 1) := by decide +kernel
theorem dX2_readEither_44 : decode cX2_readEither 44 = .ok (.iload_n 1, 1) := by decide +kernel
theorem dX2_readEither_45 : decode cX2_readEither 45 = .ok (.invokevirtual 69, 3) := by decide +kernel
theorem dX2_readEither_48 : decode cX2_readEither 48 = .ok (.aload_n 0, 1) := by decide +kernel
theorem dX2_readEither_49 : decode cX2_readEither 49 = .ok (.getfield 19, 3) := by decide +kernel
theorem dX2_readEither_52 : decode cX2_readEither 52 = .ok (.bipush (-2), 2) := by decide +kernel
theorem dX2_readEither_54 : decode cX2_readEither 54 = .ok (.invokevirtual 72, 3) := by decide +kernel
theorem dX2_readEither_57 : decode cX2_readEither 57 = .ok (.iinc 3 1, 3) := by decide +kernel
theorem dX2_readEither_60 : decode cX2_readEither 60 = .ok (.goto (-32), 3) := by decide +kernel
theorem dX2_readEither_63 : decode cX2_readEither 63 = .ok (.iload_n 2, 1) := by decide +kernel
theorem dX2_readEither_64 : decode cX2_readEither 64 = .ok (.ifCond .le 12, 3) := by decide +kernel
theorem dX2_readEither_67 : decode cX2_readEither 67 = .ok (.aload_n 0, 1) := by decide +kernel
theorem dX2_readEither_68 : decode cX2_readEither 68 = .ok (.getfield 19, 3) := by decide +kernel
theorem dX2_readEither_71 : decode cX2_readEither 71 = .ok (.bipush (-3), 2) := by decide +kernel
theorem dX2_readEither_73 : decode cX2_readEither 73 = .ok (.invokevirtual 72, 3) := by decide +kernel
theorem dX2_readEither_76 : decode cX2_readEither 76 = .ok (.iinc 2 1, 3) := by decide +kernel
theorem dX2_readEither_79 : decode cX2_readEither 79 = .ok (.goto (-77), 3) := by decide +kernel
theorem dX2_readEither_82 : decode cX2_readEither 82 = .ok (.return_, 1) := by decide +kernel
theorem dX2_readFactor_0 : decode cX2_readFactor 0 = .ok (.iload_n 1, 1) := by decide +kernel
theorem dX2_readFactor_1 : decode cX2_readFactor 1 = .ok (.istore_n 2, 1) := by decide +kernel
theorem dX2_readFactor_2 : decode cX2_readFactor 2 = .ok (.iload_n 1, 1) := by decide +kernel
theorem dX2_readFactor_3 : decode cX2_readFactor 3 = .ok (.istore_n 3, 1) := by decide +kernel
theorem dX2_readFactor_4 : decode cX2_readFactor 4 = .ok (.iload_n 3, 1) := by decide +kernel
theorem dX2_readFactor_5 : decode cX2_readFactor 5 = .ok (.iconst 4, 1) := by decide +kernel
theorem dX2_readFactor_6 : decode cX2_readFactor 6 = .ok (.if_icmp .ge 21, 3) := by decide +kernel
theorem dX2_readFactor_9 : decode cX2_readFactor 9 = .ok (.aload_n 0, 1) := by decide +kernel
theorem dX2_readFactor_10 : decode cX2_readFactor 10 = .ok (.bipush 33, 2) := by decide +kernel
theorem dX2_readFactor_12 : decode cX2_readFactor 12 = .ok (.invokevirtual 38, 3) := by decide +kernel
theorem dX2_readFactor_15 : decode cX2_readFactor 15 = .ok (.ifCond .eq 12, 3) := by decide +kernel
theorem dX2_readFactor_18 : decode cX2_readFactor 18 = .ok (.iinc 2 1, 3) := by decide +kernel
theorem dX2_readFactor_21 : decode cX2_readFactor 21 = .ok (.iinc 3 1, 3) := by decide +kernel
theorem dX2_readFactor_24 : decode cX2_readFactor 24 = .ok (.goto (-20), 3) := by decide +kernel
theorem dX2_readFactor_27 : decode cX2_readFactor 27 = .ok (.iload_n 2, 1) := by decide +kernel
theorem dX2_readFactor_28 : decode cX2_readFactor 28 = .ok (.iconst 4, 1) := by decide +kernel
theorem dX2_readFactor_29 : decode cX2_readFactor 29 = .ok (.if_icmp .ge 28, 3) := by decide +kernel
theorem dX2_readFactor_32 : decode cX2_readFactor 32 = .ok (.aload_n 0, 1) := by decide +kernel
theorem dX2_readFactor_33 : decode cX2_readFactor 33 = .ok (.bipush 40, 2) := by decide +kernel
theorem dX2_readFactor_35 : decode cX2_readFactor 35 = .ok (.invokevirtual 38, 3) := by decide +kernel
theorem dX2_readFactor_38 : decode cX2_readFactor 38 = .ok (.ifCond .eq 19, 3) := by decide +kernel
theorem dX2_readFactor_41 : decode cX2_readFactor 41 = .ok (.aload_n 0, 1) := by decide +kernel
theorem dX2_readFactor_42 : decode cX2_readFactor 42 = .ok (.iload_n 2, 1) := by decide +kernel
theorem dX2_readFactor_43 : decode cX2_readFactor 43 = .ok (.iconst 1, 1) := by decide +kernel
theorem dX2_readFactor_44 : decode cX2_readFactor 44 = .ok (.iadd, 1) := by decide +kernel
theorem dX2_readFactor_45 : decode cX2_readFactor 45 = .ok (.invokevirtual 61, 3) := by decide +kernel
theorem dX2_readFactor_48 : decode cX2_readFactor 48 = .ok (.aload_n 0, 1) := by decide +kernel
theorem dX2_readFactor_49 : decode cX2_readFactor 49 = .ok (.ldc 75, 2) := by decide +kernel
theorem dX2_readFactor_51 : decode cX2_readFactor 51 = .ok (.invokevirtual 51, 3) := by decide +kernel
theorem dX2_readFactor_54 : decode cX2_readFactor 54 = .ok (.goto 7, 3) := by decide +kernel
theorem dX2_readFactor_57 : decode cX2_readFactor 57 = .ok (.aload_n 0, 1) := by decide +kernel
theorem dX2_readFactor_58 : decode cX2_readFactor 58 = .ok (.invokevirtual 77, 3) := by decide +kernel
theorem dX2_readFactor_61 : decode cX2_readFactor 61 = .ok (.iload_n 1, 1) := by decide +kernel
theorem dX2_readFactor_62 : decode cX2_readFactor 62 = .ok (.istore_n 3, 1) := by decide +kernel
theorem dX2_readFactor_63 : decode cX2_readFactor 63 = .ok (.iload_n 3, 1) := by decide +kernel
theorem dX2_readFactor_64 : decode cX2_readFactor 64 = .ok (.iload_n 2, 1) := by decide +kernel
theorem dX2_readFactor_65 : decode cX2_readFactor 65 = .ok (.if_icmp .ge 17, 3) := by decide +kernel
theorem dX2_readFactor_68 : decode cX2_readFactor 68 = .ok (.aload_n 0, 1) := by decide +kernel
theorem dX2_readFactor_69 : decode cX2_readFactor 69 = .ok (.getfield 19, 3) := by decide +kernel
theorem dX2_readFactor_72 : decode cX2_readFactor 72 = .ok (.iconst (-1), 1) := by decide +kernel
theorem dX2_readFactor_73 : decode cX2_readFactor 73 = .ok (.invokevirtual 72, 3) := by decide +kernel
theorem dX2_readFactor_76 : decode cX2_readFactor 76 = .ok (.iinc 3 1, 3) := by decide +kernel
theorem dX2_readFactor_79 : decode cX2_readFactor 79 = .ok (.goto (-16), 3) := by decide +kernel
theorem dX2_readFactor_82 : decode cX2_readFactor 82 = .ok (.return_, 1) := by decide +kernel
theorem dX2_readTest_0 : decode cX2_readTest 0 = .ok (.aload_n 0, 1) := by decide +kernel
theorem dX2_readTest_1 : decode cX2_readTest 1 = .ok (.ldc 80, 2) := by decide +kernel
theorem dX2_readTest_3 : decode cX2_readTest 3 = .ok (.iconst 1, 1) := by decide +kernel
theorem dX2_readTest_4 : decode cX2_readTest 4 = .ok (.invokevirtual 82, 3) := by decide +kernel
theorem dX2_readTest_7 : decode cX2_readTest 7 = .ok (.istore_n 1, 1) := by decide +kernel
theorem dX2_readTest_8 : decode cX2_readTest 8 = .ok (.aload_n 0, 1) := by decide +kernel
theorem dX2_readTest_9 : decode cX2_readTest 9 = .ok (.ldc 86, 2) := by decide +kernel
theorem dX2_readTest_11 : decode cX2_readTest 11 = .ok (.iconst 1, 1) := by decide +kernel
theorem dX2_readTest_12 : decode cX2_readTest 12 = .ok (.invokevirtual 82, 3) := by decide +kernel
theorem dX2_readTest_15 : decode cX2_readTest 15 = .ok (.istore_n 2, 1) := by decide +kernel
theorem dX2_readTest_16 : decode cX2_readTest 16 = .ok (.aload_n 0, 1) := by decide +kernel
theorem dX2_readTest_17 : decode cX2_readTest 17 = .ok (.getfield 19, 3) := by decide +kernel
theorem dX2_readTest_20 : decode cX2_readTest 20 = .ok (.iload_n 1, 1) := by decide +kernel
theorem dX2_readTest_21 : decode cX2_readTest 21 = .ok (.iload_n 2, 1) := by decide +kernel
theorem dX2_readTest_22 : decode cX2_readTest 22 = .ok (.aload_n 0, 1) := by decide +kernel
theorem dX2_readTest_23 : decode cX2_readTest 23 = .ok (.invokevirtual 55, 3) := by decide +kernel
theorem dX2_readTest_26 : decode cX2_readTest 26 = .ok (.invokestatic 88, 3) := by decide +kernel
theorem dX2_readTest_29 : decode cX2_readTest 29 = .ok (.invokevirtual 72, 3) := by decide +kernel
theorem dX2_readTest_32 : decode cX2_readTest 32 = .ok (.return_, 1) := by decide +kernel
theorem dX2_readNumber_0 : decode cX2_readNumber 0 = .ok (.aload_n 0, 1) := by decide +kernel
theorem dX2_readNumber_1 : decode cX2_readNumber 1 = .ok (.ldc 92, 2) := by decide +kernel
theorem dX2_readNumber_3 : decode cX2_readNumber 3 = .ok (.iconst 1, 1) := by decide +kernel
theorem dX2_readNumber_4 : decode cX2_readNumber 4 = .ok (.invokevirtual 82, 3) := by decide +kernel
theorem dX2_readNumber_7 : decode cX2_readNumber 7 = .ok (.istore_n 1, 1) := by decide +kernel
theorem dX2_readNumber_8 : decode cX2_readNumber 8 = .ok (.aload_n 0, 1) := by decide +kernel
theorem dX2_readNumber_9 : decode cX2_readNumber 9 = .ok (.ldc 92, 2) := by decide +kernel
theorem dX2_readNumber_11 : decode cX2_readNumber 11 = .ok (.iconst 0, 1) := by decide +kernel
theorem dX2_readNumber_12 : decode cX2_readNumber 12 = .ok (.invokevirtual 82, 3) := by decide +kernel
theorem dX2_readNumber_15 : decode cX2_readNumber 15 = .ok (.istore_n 2, 1) := by decide +kernel
theorem dX2_readNumber_16 : decode cX2_readNumber 16 = .ok (.iload_n 2, 1) := by decide +kernel
theorem dX2_readNumber_17 : decode cX2_readNumber 17 = .ok (.ifCond .ge 7, 3) := by decide +kernel
theorem dX2_readNumber_20 : decode cX2_readNumber 20 = .ok (.iload_n 1, 1) := by decide +kernel
theorem dX2_readNumber_21 : decode cX2_readNumber 21 = .ok (.goto 9, 3) := by decide +kernel
theorem dX2_readNumber_24 : decode cX2_readNumber 24 = .ok (.iload_n 1, 1) := by decide +kernel
theorem dX2_readNumber_25 : decode cX2_readNumber 25 = .ok (.bipush 10, 2) := by decide +kernel
theorem dX2_readNumber_27 : decode cX2_readNumber 27 = .ok (.imul, 1) := by decide +kernel
theorem dX2_readNumber_28 : decode cX2_readNumber 28 = .ok (.iload_n 2, 1) := by decide +kernel
theorem dX2_readNumber_29 : decode cX2_readNumber 29 = .ok (.iadd, 1) := by decide +kernel
theorem dX2_readNumber_30 : decode cX2_readNumber 30 = .ok (.ireturn, 1) := by decide +kernel
theorem dX2_isAt_0 : decode cX2_isAt 0 = .ok (.aload_n 0, 1) := by decide +kernel
theorem dX2_isAt_1 : decode cX2_isAt 1 = .ok (.getfield 31, 3) := by decide +kernel
theorem dX2_isAt_4 : decode cX2_isAt 4 = .ok (.ifCond .ne 31, 3) := by decide +kernel
theorem dX2_isAt_7 : decode cX2_isAt 7 = .ok (.aload_n 0, 1) := by decide +kernel
theorem dX2_isAt_8 : decode cX2_isAt 8 = .ok (.getfield 28, 3) := by decide +kernel
theorem dX2_isAt_11 : decode cX2_isAt 11 = .ok (.aload_n 0, 1) := by decide +kernel
theorem dX2_isAt_12 : decode cX2_isAt 12 = .ok (.getfield 15, 3) := by decide +kernel
theorem dX2_isAt_15 : decode cX2_isAt 15 = .ok (.if_icmp .ge 20, 3) := by decide +kernel
theorem dX2_isAt_18 : decode cX2_isAt 18 = .ok (.aload_n 0, 1) := by decide +kernel
theorem dX2_isAt_19 : decode cX2_isAt 19 = .ok (.getfield 9, 3) := by decide +kernel
theorem dX2_isAt_22 : decode cX2_isAt 22 = .ok (.aload_n 0, 1) := by decide +kernel
theorem dX2_isAt_23 : decode cX2_isAt 23 = .ok (.getfield 28, 3) := by decide +kernel
theorem dX2_isAt_26 : decode cX2_isAt 26 = .ok (.baload, 1) := by decide +kernel
theorem dX2_isAt_27 : decode cX2_isAt 27 = .ok (.iload_n 1, 1) := by decide +kernel
theorem dX2_isAt_28 : decode cX2_isAt 28 = .ok (.if_icmp .ne 7, 3) := by decide +kernel
theorem dX2_isAt_31 : decode cX2_isAt 31 = .ok (.iconst 1, 1) := by decide +kernel
theorem dX2_isAt_32 : decode cX2_isAt 32 = .ok (.goto 4, 3) := by decide +kernel
theorem dX2_isAt_35 : decode cX2_isAt 35 = .ok (.iconst 0, 1) := by decide +kernel
theorem dX2_isAt_36 : decode cX2_isAt 36 = .ok (.ireturn, 1) := by decide +kernel
theorem dX2_takes_0 : decode cX2_takes 0 = .ok (.aload_n 0, 1) := by decide +kernel
theorem dX2_takes_1 : decode cX2_takes 1 = .ok (.iload_n 1, 1) := by decide +kernel
theorem dX2_takes_2 : decode cX2_takes 2 = .ok (.invokevirtual 42, 3) := by decide +kernel
theorem dX2_takes_5 : decode cX2_takes 5 = .ok (.istore_n 2, 1) := by decide +kernel
theorem dX2_takes_6 : decode cX2_takes 6 = .ok (.iload_n 2, 1) := by decide +kernel
theorem dX2_takes_7 : decode cX2_takes 7 = .ok (.ifCond .eq 13, 3) := by decide +kernel
theorem dX2_takes_10 : decode cX2_takes 10 = .ok (.aload_n 0, 1) := by decide +kernel
theorem dX2_takes_11 : decode cX2_takes 11 = .ok (.dup, 1) := by decide +kernel
theorem dX2_takes_12 : decode cX2_takes 12 = .ok (.getfield 28, 3) := by decide +kernel
theorem dX2_takes_15 : decode cX2_takes 15 = .ok (.iconst 1, 1) := by decide +kernel
theorem dX2_takes_16 : decode cX2_takes 16 = .ok (.iadd, 1) := by decide +kernel
theorem dX2_takes_17 : decode cX2_takes 17 = .ok (.putfield 28, 3) := by decide +kernel
theorem dX2_takes_20 : decode cX2_takes 20 = .ok (.iload_n 2, 1) := by decide +kernel
theorem dX2_takes_21 : decode cX2_takes 21 = .ok (.ireturn, 1) := by decide +kernel
theorem dX2_need_0 : decode cX2_need 0 = .ok (.iconst 0, 1) := by decide +kernel
theorem dX2_need_1 : decode cX2_need 1 = .ok (.istore_n 2, 1) := by decide +kernel
theorem dX2_need_2 : decode cX2_need 2 = .ok (.iload_n 2, 1) := by decide +kernel
theorem dX2_need_3 : decode cX2_need 3 = .ok (.aload_n 1, 1) := by decide +kernel
theorem dX2_need_4 : decode cX2_need 4 = .ok (.invokevirtual 94, 3) := by decide +kernel
theorem dX2_need_7 : decode cX2_need 7 = .ok (.if_icmp .ge 26, 3) := by decide +kernel
theorem dX2_need_10 : decode cX2_need 10 = .ok (.aload_n 0, 1) := by decide +kernel
theorem dX2_need_11 : decode cX2_need 11 = .ok (.aload_n 1, 1) := by decide +kernel
theorem dX2_need_12 : decode cX2_need 12 = .ok (.iload_n 2, 1) := by decide +kernel
theorem dX2_need_13 : decode cX2_need 13 = .ok (.invokevirtual 98, 3) := by decide +kernel
theorem dX2_need_16 : decode cX2_need 16 = .ok (.invokevirtual 38, 3) := by decide +kernel
theorem dX2_need_19 : decode cX2_need 19 = .ok (.ifCond .ne 8, 3) := by decide +kernel
theorem dX2_need_22 : decode cX2_need 22 = .ok (.aload_n 0, 1) := by decide +kernel
theorem dX2_need_23 : decode cX2_need 23 = .ok (.iconst 1, 1) := by decide +kernel
theorem dX2_need_24 : decode cX2_need 24 = .ok (.putfield 31, 3) := by decide +kernel
theorem dX2_need_27 : decode cX2_need 27 = .ok (.iinc 2 1, 3) := by decide +kernel
theorem dX2_need_30 : decode cX2_need 30 = .ok (.goto (-28), 3) := by decide +kernel
theorem dX2_need_33 : decode cX2_need 33 = .ok (.return_, 1) := by decide +kernel
theorem dX2_takesOneOf_0 : decode cX2_takesOneOf 0 = .ok (.aload_n 0, 1) := by decide +kernel
theorem dX2_takesOneOf_1 : decode cX2_takesOneOf 1 = .ok (.getfield 31, 3) := by decide +kernel
theorem dX2_takesOneOf_4 : decode cX2_takesOneOf 4 = .ok (.ifCond .ne 14, 3) := by decide +kernel
theorem dX2_takesOneOf_7 : decode cX2_takesOneOf 7 = .ok (.aload_n 0, 1) := by decide +kernel
theorem dX2_takesOneOf_8 : decode cX2_takesOneOf 8 = .ok (.getfield 28, 3) := by decide +kernel
theorem dX2_takesOneOf_11 : decode cX2_takesOneOf 11 = .ok (.aload_n 0, 1) := by decide +kernel
theorem dX2_takesOneOf_12 : decode cX2_takesOneOf 12 = .ok (.getfield 15, 3) := by decide +kernel
theorem dX2_takesOneOf_15 : decode cX2_takesOneOf 15 = .ok (.if_icmp .lt 7, 3) := by decide +kernel
theorem dX2_takesOneOf_18 : decode cX2_takesOneOf 18 = .ok (.iconst (-1), 1) := by decide +kernel
theorem dX2_takesOneOf_19 : decode cX2_takesOneOf 19 = .ok (.goto 17, 3) := by decide +kernel
theorem dX2_takesOneOf_22 : decode cX2_takesOneOf 22 = .ok (.aload_n 1, 1) := by decide +kernel
theorem dX2_takesOneOf_23 : decode cX2_takesOneOf 23 = .ok (.aload_n 0, 1) := by decide +kernel
theorem dX2_takesOneOf_24 : decode cX2_takesOneOf 24 = .ok (.getfield 9, 3) := by decide +kernel
theorem dX2_takesOneOf_27 : decode cX2_takesOneOf 27 = .ok (.aload_n 0, 1) := by decide +kernel
theorem dX2_takesOneOf_28 : decode cX2_takesOneOf 28 = .ok (.getfield 28, 3) := by decide +kernel
theorem dX2_takesOneOf_31 : decode cX2_takesOneOf 31 = .ok (.baload, 1) := by decide +kernel
theorem dX2_takesOneOf_32 : decode cX2_takesOneOf 32 = .ok (.i2c, 1) := by decide +kernel
theorem dX2_takesOneOf_33 : decode cX2_takesOneOf 33 = .ok (.invokevirtual 102, 3) := by decide +kernel
theorem dX2_takesOneOf_36 : decode cX2_takesOneOf 36 = .ok (.istore_n 3, 1) := by decide +kernel
theorem dX2_takesOneOf_37 : decode cX2_takesOneOf 37 = .ok (.iload_n 3, 1) := by decide +kernel
theorem dX2_takesOneOf_38 : decode cX2_takesOneOf 38 = .ok (.ifCond .lt 16, 3) := by decide +kernel
theorem dX2_takesOneOf_41 : decode cX2_takesOneOf 41 = .ok (.aload_n 0, 1) := by decide +kernel
theorem dX2_takesOneOf_42 : decode cX2_takesOneOf 42 = .ok (.dup, 1) := by decide +kernel
theorem dX2_takesOneOf_43 : decode cX2_takesOneOf 43 = .ok (.getfield 28, 3) := by decide +kernel
theorem dX2_takesOneOf_46 : decode cX2_takesOneOf 46 = .ok (.iconst 1, 1) := by decide +kernel
theorem dX2_takesOneOf_47 : decode cX2_takesOneOf 47 = .ok (.iadd, 1) := by decide +kernel
theorem dX2_takesOneOf_48 : decode cX2_takesOneOf 48 = .ok (.putfield 28, 3) := by decide +kernel
theorem dX2_takesOneOf_51 : decode cX2_takesOneOf 51 = .ok (.goto 12, 3) := by decide +kernel
theorem dX2_takesOneOf_54 : decode cX2_takesOneOf 54 = .ok (.iload_n 2, 1) := by decide +kernel
theorem dX2_takesOneOf_55 : decode cX2_takesOneOf 55 = .ok (.ifCond .eq 8, 3) := by decide +kernel
theorem dX2_takesOneOf_58 : decode cX2_takesOneOf 58 = .ok (.aload_n 0, 1) := by decide +kernel
theorem dX2_takesOneOf_59 : decode cX2_takesOneOf 59 = .ok (.iconst 1, 1) := by decide +kernel
theorem dX2_takesOneOf_60 : decode cX2_takesOneOf 60 = .ok (.putfield 31, 3) := by decide +kernel
theorem dX2_takesOneOf_63 : decode cX2_takesOneOf 63 = .ok (.iload_n 3, 1) := by decide +kernel
theorem dX2_takesOneOf_64 : decode cX2_takesOneOf 64 = .ok (.ireturn, 1) := by decide +kernel
theorem dX3_init_0 : decode cX3_init 0 = .ok (.aload_n 0, 1) := by decide +kernel
theorem dX3_init_1 : decode cX3_init 1 = .ok (.invokespecial 3, 3) := by decide +kernel
theorem dX3_init_4 : decode cX3_init 4 = .ok (.aload_n 0, 1) := by decide +kernel
theorem dX3_init_5 : decode cX3_init 5 = .ok (.iconst 5, 1) := by decide +kernel
theorem dX3_init_6 : decode cX3_init 6 = .ok (.newarray .int, 2) := by decide +kernel
theorem dX3_init_8 : decode cX3_init 8 = .ok (.putfield 9, 3) := by decide +kernel
theorem dX3_init_11 : decode cX3_init 11 = .ok (.aload_n 0, 1) := by decide +kernel
theorem dX3_init_12 : decode cX3_init 12 = .ok (.iconst 3, 1) := by decide +kernel
theorem dX3_init_13 : decode cX3_init 13 = .ok (.newarray .int, 2) := by decide +kernel
theorem dX3_init_15 : decode cX3_init 15 = .ok (.putfield 15, 3) := by decide +kernel
theorem dX3_init_18 : decode cX3_init 18 = .ok (.aload_n 0, 1) := by decide +kernel
theorem dX3_init_19 : decode cX3_init 19 = .ok (.iconst 5, 1) := by decide +kernel
theorem dX3_init_20 : decode cX3_init 20 = .ok (.newarray .int, 2) := by decide +kernel
theorem dX3_init_22 : decode cX3_init 22 = .ok (.putfield 18, 3) := by decide +kernel
theorem dX3_init_25 : decode cX3_init 25 = .ok (.aload_n 0, 1) := by decide +kernel
theorem dX3_init_26 : decode cX3_init 26 = .ok (.iconst 5, 1) := by decide +kernel
theorem dX3_init_27 : decode cX3_init 27 = .ok (.newarray .int, 2) := by decide +kernel
theorem dX3_init_29 : decode cX3_init 29 = .ok (.putfield 21, 3) := by decide +kernel
theorem dX3_init_32 : decode cX3_init 32 = .ok (.aload_n 0, 1) := by decide +kernel
theorem dX3_init_33 : decode cX3_init 33 = .ok (.iconst 5, 1) := by decide +kernel
theorem dX3_init_34 : decode cX3_init 34 = .ok (.newarray .int, 2) := by decide +kernel
theorem dX3_init_36 : decode cX3_init 36 = .ok (.putfield 24, 3) := by decide +kernel
theorem dX3_init_39 : decode cX3_init 39 = .ok (.aload_n 0, 1) := by decide +kernel
theorem dX3_init_40 : decode cX3_init 40 = .ok (.aload_n 1, 1) := by decide +kernel
theorem dX3_init_41 : decode cX3_init 41 = .ok (.putfield 27, 3) := by decide +kernel
theorem dX3_init_44 : decode cX3_init 44 = .ok (.return_, 1) := by decide +kernel
theorem dX3_find_0 : decode cX3_find 0 = .ok (.aload_n 0, 1) := by decide +kernel
theorem dX3_find_1 : decode cX3_find 1 = .ok (.iconst 0, 1) := by decide +kernel
theorem dX3_find_2 : decode cX3_find 2 = .ok (.putfield 31, 3) := by decide +kernel
theorem dX3_find_5 : decode cX3_find 5 = .ok (.aload_n 0, 1) := by decide +kernel
theorem dX3_find_6 : decode cX3_find 6 = .ok (.iconst 0, 1) := by decide +kernel
theorem dX3_find_7 : decode cX3_find 7 = .ok (.putfield 35, 3) := by decide +kernel
theorem dX3_find_10 : decode cX3_find 10 = .ok (.aload_n 0, 1) := by decide +kernel
theorem dX3_find_11 : decode cX3_find 11 = .ok (.iconst 0, 1) := by decide +kernel
theorem dX3_find_12 : decode cX3_find 12 = .ok (.putfield 38, 3) := by decide +kernel
theorem dX3_find_15 : decode cX3_find 15 = .ok (.aload_n 0, 1) := by decide +kernel
theorem dX3_find_16 : decode cX3_find 16 = .ok (.getfield 21, 3) := by decide +kernel
theorem dX3_find_19 : decode cX3_find 19 = .ok (.iconst 0, 1) := by decide +kernel
theorem dX3_find_20 : decode cX3_find 20 = .ok (.invokestatic 41, 3) := by decide +kernel
theorem dX3_find_23 : decode cX3_find 23 = .ok (.aload_n 0, 1) := by decide +kernel
theorem dX3_find_24 : decode cX3_find 24 = .ok (.getfield 24, 3) := by decide +kernel
theorem dX3_find_27 : decode cX3_find 27 = .ok (.iconst 0, 1) := by decide +kernel
theorem dX3_find_28 : decode cX3_find 28 = .ok (.invokestatic 41, 3) := by decide +kernel
theorem dX3_find_31 : decode cX3_find 31 = .ok (.aload_n 0, 1) := by decide +kernel
theorem dX3_find_32 : decode cX3_find 32 = .ok (.invokevirtual 47, 3) := by decide +kernel
theorem dX3_find_35 : decode cX3_find 35 = .ok (.iconst 0, 1) := by decide +kernel
theorem dX3_find_36 : decode cX3_find 36 = .ok (.istore_n 3, 1) := by decide +kernel
theorem dX3_find_37 : decode cX3_find 37 = .ok (.iload_n 3, 1) := by decide +kernel
theorem dX3_find_38 : decode cX3_find 38 = .ok (.ldc 50, 2) := by decide +kernel
theorem dX3_find_40 : decode cX3_find 40 = .ok (.if_icmp .ge 38, 3) := by decide +kernel
theorem dX3_find_43 : decode cX3_find 43 = .ok (.aload_n 0, 1) := by decide +kernel
theorem dX3_find_44 : decode cX3_find 44 = .ok (.getfield 51, 3) := by decide +kernel
theorem dX3_find_47 : decode cX3_find 47 = .ok (.ifCond .ne 31, 3) := by decide +kernel
theorem dX3_find_50 : decode cX3_find 50 = .ok (.aload_n 0, 1) := by decide +kernel
theorem dX3_find_51 : decode cX3_find 51 = .ok (.aload_n 2, 1) := by decide +kernel
theorem dX3_find_52 : decode cX3_find 52 = .ok (.invokevirtual 55, 3) := by decide +kernel
theorem dX3_find_55 : decode cX3_find 55 = .ok (.ifCond .ne 7, 3) := by decide +kernel
theorem dX3_find_58 : decode cX3_find 58 = .ok (.aload_n 0, 1) := by decide +kernel
theorem dX3_find_59 : decode cX3_find 59 = .ok (.invokevirtual 59, 3) := by decide +kernel
theorem dX3_find_62 : decode cX3_find 62 = .ok (.aload_n 0, 1) := by decide +kernel
theorem dX3_find_63 : decode cX3_find 63 = .ok (.iload_n 1, 1) := by decide +kernel
theorem dX3_find_64 : decode cX3_find 64 = .ok (.aload_n 0, 1) := by decide +kernel
theorem dX3_find_65 : decode cX3_find 65 = .ok (.aload_n 2, 1) := by decide +kernel
theorem dX3_find_66 : decode cX3_find 66 = .ok (.invokevirtual 62, 3) := by decide +kernel
theorem dX3_find_69 : decode cX3_find 69 = .ok (.invokevirtual 66, 3) := by decide +kernel
theorem dX3_find_72 : decode cX3_find 72 = .ok (.iinc 3 1, 3) := by decide +kernel
theorem dX3_find_75 : decode cX3_find 75 = .ok (.goto (-38), 3) := by decide +kernel
theorem dX3_find_78 : decode cX3_find 78 = .ok (.return_, 1) := by decide +kernel
theorem dX3_leastExcess_0 : decode cX3_leastExcess 0 = .ok (.iconst (-1), 1) := by decide +kernel
theorem dX3_leastExcess_1 : decode cX3_leastExcess 1 = .ok (.istore_n 3, 1) := by decide +kernel
theorem dX3_leastExcess_2 : decode cX3_leastExcess 2 = .ok (.aload_n 0, 1) := by decide +kernel
theorem dX3_leastExcess_3 : decode cX3_leastExcess 3 = .ok (.invokevirtual 47, 3) := by decide +kernel
theorem dX3_leastExcess_6 : decode cX3_leastExcess 6 = .ok (.iconst 0, 1) := by decide +kernel
theorem dX3_leastExcess_7 : decode cX3_leastExcess 7 = .ok (.istore 4, 2) := by decide +kernel
theorem dX3_leastExcess_9 : decode cX3_leastExcess 9 = .ok (.iload 4, 2) := by decide +kernel
theorem dX3_leastExcess_11 : decode cX3_leastExcess 11 = .ok (.ldc 50, 2) := by decide +kernel
theorem dX3_leastExcess_13 : decode cX3_leastExcess 13 = .ok (.if_icmp .ge 47, 3) := by decide +kernel
theorem dX3_leastExcess_16 : decode cX3_leastExcess 16 = .ok (.aload_n 0, 1) := by decide +kernel
theorem dX3_leastExcess_17 : decode cX3_leastExcess 17 = .ok (.getfield 51, 3) := by decide +kernel
theorem dX3_leastExcess_20 : decode cX3_leastExcess 20 = .ok (.ifCond .ne 40, 3) := by decide +kernel
theorem dX3_leastExcess_23 : decode cX3_leastExcess 23 = .ok (.aload_n 0, 1) := by decide +kernel
theorem dX3_leastExcess_24 : decode cX3_leastExcess 24 = .ok (.aload_n 2, 1) := by decide +kernel
theorem dX3_leastExcess_25 : decode cX3_leastExcess 25 = .ok (.invokevirtual 55, 3) := by decide +kernel
theorem dX3_leastExcess_28 : decode cX3_leastExcess 28 = .ok (.istore 5, 2) := by decide +kernel
theorem dX3_leastExcess_30 : decode cX3_leastExcess 30 = .ok (.iload 5, 2) := by decide +kernel
theorem dX3_leastExcess_32 : decode cX3_leastExcess 32 = .ok (.ifCond .lt 16, 3) := by decide +kernel
theorem dX3_leastExcess_35 : decode cX3_leastExcess 35 = .ok (.iload_n 3, 1) := by decide +kernel
theorem dX3_leastExcess_36 : decode cX3_leastExcess 36 = .ok (.ifCond .lt 9, 3) := by decide +kernel
theorem dX3_leastExcess_39 : decode cX3_leastExcess 39 = .ok (.iload 5, 2) := by decide +kernel
theorem dX3_leastExcess_41 : decode cX3_leastExcess 41 = .ok (.iload_n 3, 1) := by decide +kernel
theorem dX3_leastExcess_42 : decode cX3_leastExcess 42 = .ok (.if_icmp .ge 6, 3) := by decide +kernel
theorem dX3_leastExcess_45 : decode cX3_leastExcess 45 = .ok (.iload 5, 2) := by decide +kernel
theorem dX3_leastExcess_47 : decode cX3_leastExcess 47 = .ok (.istore_n 3, 1) := by decide +kernel
theorem dX3_leastExcess_48 : decode cX3_leastExcess 48 = .ok (.aload_n 0, 1) := by decide +kernel
theorem dX3_leastExcess_49 : decode cX3_leastExcess 49 = .ok (.iload_n 1, 1) := by decide +kernel
theorem dX3_leastExcess_50 : decode cX3_leastExcess 50 = .ok (.iconst 0, 1) := by decide +kernel
theorem dX3_leastExcess_51 : decode cX3_leastExcess 51 = .ok (.invokevirtual 66, 3) := by decide +kernel
theorem dX3_leastExcess_54 : decode cX3_leastExcess 54 = .ok (.iinc 4 1, 3) := by decide +kernel
theorem dX3_leastExcess_57 : decode cX3_leastExcess 57 = .ok (.goto (-48), 3) := by decide +kernel
theorem dX3_leastExcess_60 : decode cX3_leastExcess 60 = .ok (.iload_n 3, 1) := by decide +kernel
theorem dX3_leastExcess_61 : decode cX3_leastExcess 61 = .ok (.ireturn, 1) := by decide +kernel
theorem dX3_begin_0 : decode cX3_begin 0 = .ok (.aload_n 0, 1) := by decide +kernel
theorem dX3_begin_1 : decode cX3_begin 1 = .ok (.getfield 9, 3) := by decide +kernel
theorem dX3_begin_4 : decode cX3_begin 4 = .ok (.iconst 0, 1) := by decide +kernel
theorem dX3_begin_5 : decode cX3_begin 5 = .ok (.invokestatic 41, 3) := by decide +kernel
theorem dX3_begin_8 : decode cX3_begin 8 = .ok (.aload_n 0, 1) := by decide +kernel
theorem dX3_begin_9 : decode cX3_begin 9 = .ok (.getfield 15, 3) := by decide +kernel
theorem dX3_begin_12 : decode cX3_begin 12 = .ok (.iconst 0, 1) := by decide +kernel
theorem dX3_begin_13 : decode cX3_begin 13 = .ok (.invokestatic 41, 3) := by decide +kernel
theorem dX3_begin_16 : decode cX3_begin 16 = .ok (.aload_n 0, 1) := by decide +kernel
theorem dX3_begin_17 : decode cX3_begin 17 = .ok (.iconst 0, 1) := by decide +kernel
theorem dX3_begin_18 : decode cX3_begin 18 = .ok (.putfield 70, 3) := by decide +kernel
theorem dX3_begin_21 : decode cX3_begin 21 = .ok (.aload_n 0, 1) := by decide +kernel
theorem dX3_begin_22 : decode cX3_begin 22 = .ok (.iconst 0, 1) := by decide +kernel
theorem dX3_begin_23 : decode cX3_begin 23 = .ok (.putfield 73, 3) := by decide +kernel
theorem dX3_begin_26 : decode cX3_begin 26 = .ok (.aload_n 0, 1) := by decide +kernel
theorem dX3_begin_27 : decode cX3_begin 27 = .ok (.iconst 0, 1) := by decide +kernel
theorem dX3_begin_28 : decode cX3_begin 28 = .ok (.putfield 51, 3) := by decide +kernel
theorem dX3_begin_31 : decode cX3_begin 31 = .ok (.return_, 1) := by decide +kernel
theorem dX3_advance_0 : decode cX3_advance 0 = .ok (.iload_n 2, 1) := by decide +kernel
theorem dX3_advance_1 : decode cX3_advance 1 = .ok (.ifCond .ne 11, 3) := by decide +kernel
theorem dX3_advance_4 : decode cX3_advance 4 = .ok (.aload_n 0, 1) := by decide +kernel
theorem dX3_advance_5 : decode cX3_advance 5 = .ok (.getfield 70, 3) := by decide +kernel
theorem dX3_advance_8 : decode cX3_advance 8 = .ok (.iload_n 1, 1) := by decide +kernel
theorem dX3_advance_9 : decode cX3_advance 9 = .ok (.if_icmp .lt 7, 3) := by decide +kernel
theorem dX3_advance_12 : decode cX3_advance 12 = .ok (.iconst 1, 1) := by decide +kernel
theorem dX3_advance_13 : decode cX3_advance 13 = .ok (.goto 4, 3) := by decide +kernel
theorem dX3_advance_16 : decode cX3_advance 16 = .ok (.iconst 0, 1) := by decide +kernel
theorem dX3_advance_17 : decode cX3_advance 17 = .ok (.istore_n 3, 1) := by decide +kernel
theorem dX3_advance_18 : decode cX3_advance 18 = .ok (.aload_n 0, 1) := by decide +kernel
theorem dX3_advance_19 : decode cX3_advance 19 = .ok (.getfield 27, 3) := by decide +kernel
theorem dX3_advance_22 : decode cX3_advance 22 = .ok (.getfield 76, 3) := by decide +kernel
theorem dX3_advance_25 : decode cX3_advance 25 = .ok (.iconst 1, 1) := by decide +kernel
theorem dX3_advance_26 : decode cX3_advance 26 = .ok (.isub, 1) := by decide +kernel
theorem dX3_advance_27 : decode cX3_advance 27 = .ok (.istore 4, 2) := by decide +kernel
theorem dX3_advance_29 : decode cX3_advance 29 = .ok (.iload 4, 2) := by decide +kernel
theorem dX3_advance_31 : decode cX3_advance 31 = .ok (.ifCond .lt 47, 3) := by decide +kernel
theorem dX3_advance_34 : decode cX3_advance 34 = .ok (.iload_n 3, 1) := by decide +kernel
theorem dX3_advance_35 : decode cX3_advance 35 = .ok (.ifCond .ne 11, 3) := by decide +kernel
theorem dX3_advance_38 : decode cX3_advance 38 = .ok (.aload_n 0, 1) := by decide +kernel
theorem dX3_advance_39 : decode cX3_advance 39 = .ok (.iload 4, 2) := by decide +kernel
theorem dX3_advance_41 : decode cX3_advance 41 = .ok (.iconst 1, 1) := by decide +kernel
theorem dX3_advance_42 : decode cX3_advance 42 = .ok (.invokevirtual 81, 3) := by decide +kernel
theorem dX3_advance_45 : decode cX3_advance 45 = .ok (.return_, 1) := by decide +kernel
theorem dX3_advance_46 : decode cX3_advance 46 = .ok (.aload_n 0, 1) := by decide +kernel
theorem dX3_advance_47 : decode cX3_advance 47 = .ok (.getfield 9, 3) := by decide +kernel
theorem dX3_advance_50 : decode cX3_advance 50 = .ok (.iload 4, 2) := by decide +kernel
theorem dX3_advance_52 : decode cX3_advance 52 = .ok (.iaload, 1) := by decide +kernel
theorem dX3_advance_53 : decode cX3_advance 53 = .ok (.ifCond .le 19, 3) := by decide +kernel
theorem dX3_advance_56 : decode cX3_advance 56 = .ok (.aload_n 0, 1) := by decide +kernel
theorem dX3_advance_57 : decode cX3_advance 57 = .ok (.iload 4, 2) := by decide +kernel
theorem dX3_advance_59 : decode cX3_advance 59 = .ok (.aload_n 0, 1) := by decide +kernel
theorem dX3_advance_60 : decode cX3_advance 60 = .ok (.getfield 9, 3) := by decide +kernel
theorem dX3_advance_63 : decode cX3_advance 63 = .ok (.iload 4, 2) := by decide +kernel
theorem dX3_advance_65 : decode cX3_advance 65 = .ok (.iaload, 1) := by decide +kernel
theorem dX3_advance_66 : decode cX3_advance 66 = .ok (.ineg, 1) := by decide +kernel
theorem dX3_advance_67 : decode cX3_advance 67 = .ok (.invokevirtual 81, 3) := by decide +kernel
theorem dX3_advance_70 : decode cX3_advance 70 = .ok (.iconst 0, 1) := by decide +kernel
theorem dX3_advance_71 : decode cX3_advance 71 = .ok (.istore_n 3, 1) := by decide +kernel
theorem dX3_advance_72 : decode cX3_advance 72 = .ok (.iinc 4 (-1), 3) := by decide +kernel
theorem dX3_advance_75 : decode cX3_advance 75 = .ok (.goto (-46), 3) := by decide +kernel
theorem dX3_advance_78 : decode cX3_advance 78 = .ok (.aload_n 0, 1) := by decide +kernel
theorem dX3_advance_79 : decode cX3_advance 79 = .ok (.iconst 1, 1) := by decide +kernel
theorem dX3_advance_80 : decode cX3_advance 80 = .ok (.putfield 51, 3) := by decide +kernel
theorem dX3_advance_83 : decode cX3_advance 83 = .ok (.return_, 1) := by decide +kernel
theorem dX3_addBeasts_0 : decode cX3_addBeasts 0 = .ok (.aload_n 0, 1) := by decide +kernel
theorem dX3_addBeasts_1 : decode cX3_addBeasts 1 = .ok (.getfield 9, 3) := by decide +kernel
theorem dX3_addBeasts_4 : decode cX3_addBeasts 4 = .ok (.iload_n 1, 1) := by decide +kernel
theorem dX3_addBeasts_5 : decode cX3_addBeasts 5 = .ok (.dup2, 1) := by decide +kernel
theorem dX3_addBeasts_6 : decode cX3_addBeasts 6 = .ok (.iaload, 1) := by decide +kernel
theorem dX3_addBeasts_7 : decode cX3_addBeasts 7 = .ok (.iload_n 2, 1) := by decide +kernel
theorem dX3_addBeasts_8 : decode cX3_addBeasts 8 = .ok (.iadd, 1) := by decide +kernel
theorem dX3_addBeasts_9 : decode cX3_addBeasts 9 = .ok (.iastore, 1) := by decide +kernel
theorem dX3_addBeasts_10 : decode cX3_addBeasts 10 = .ok (.aload_n 0, 1) := by decide +kernel
theorem dX3_addBeasts_11 : decode cX3_addBeasts 11 = .ok (.dup, 1) := by decide +kernel
theorem dX3_addBeasts_12 : decode cX3_addBeasts 12 = .ok (.getfield 70, 3) := by decide +kernel
theorem dX3_addBeasts_15 : decode cX3_addBeasts 15 = .ok (.iload_n 2, 1) := by decide +kernel
theorem dX3_addBeasts_16 : decode cX3_addBeasts 16 = .ok (.iadd, 1) := by decide +kernel
theorem dX3_addBeasts_17 : decode cX3_addBeasts 17 = .ok (.putfield 70, 3) := by decide +kernel
theorem dX3_addBeasts_20 : decode cX3_addBeasts 20 = .ok (.aload_n 0, 1) := by decide +kernel
theorem dX3_addBeasts_21 : decode cX3_addBeasts 21 = .ok (.dup, 1) := by decide +kernel
theorem dX3_addBeasts_22 : decode cX3_addBeasts 22 = .ok (.getfield 73, 3) := by decide +kernel
theorem dX3_addBeasts_25 : decode cX3_addBeasts 25 = .ok (.iload_n 2, 1) := by decide +kernel
theorem dX3_addBeasts_26 : decode cX3_addBeasts 26 = .ok (.aload_n 0, 1) := by decide +kernel
theorem dX3_addBeasts_27 : decode cX3_addBeasts 27 = .ok (.getfield 27, 3) := by decide +kernel
theorem dX3_addBeasts_30 : decode cX3_addBeasts 30 = .ok (.getfield 85, 3) := by decide +kernel
theorem dX3_addBeasts_33 : decode cX3_addBeasts 33 = .ok (.iload_n 1, 1) := by decide +kernel
theorem dX3_addBeasts_34 : decode cX3_addBeasts 34 = .ok (.iaload, 1) := by decide +kernel
theorem dX3_addBeasts_35 : decode cX3_addBeasts 35 = .ok (.imul, 1) := by decide +kernel
theorem dX3_addBeasts_36 : decode cX3_addBeasts 36 = .ok (.iadd, 1) := by decide +kernel
theorem dX3_addBeasts_37 : decode cX3_addBeasts 37 = .ok (.putfield 73, 3) := by decide +kernel
theorem dX3_addBeasts_40 : decode cX3_addBeasts 40 = .ok (.iconst 0, 1) := by decide +kernel
theorem dX3_addBeasts_41 : decode cX3_addBeasts 41 = .ok (.istore_n 3, 1) := by decide +kernel
theorem dX3_addBeasts_42 : decode cX3_addBeasts 42 = .ok (.iload_n 3, 1) := by decide +kernel
theorem dX3_addBeasts_43 : decode cX3_addBeasts 43 = .ok (.iconst 3, 1) := by decide +kernel
theorem dX3_addBeasts_44 : decode cX3_addBeasts 44 = .ok (.if_icmp .ge 31, 3) := by decide +kernel
theorem dX3_addBeasts_47 : decode cX3_addBeasts 47 = .ok (.aload_n 0, 1) := by decide +kernel
theorem dX3_addBeasts_48 : decode cX3_addBeasts 48 = .ok (.getfield 15, 3) := by decide +kernel
theorem dX3_addBeasts_51 : decode cX3_addBeasts 51 = .ok (.iload_n 3, 1) := by decide +kernel
theorem dX3_addBeasts_52 : decode cX3_addBeasts 52 = .ok (.dup2, 1) := by decide +kernel
theorem dX3_addBeasts_53 : decode cX3_addBeasts 53 = .ok (.iaload, 1) := by decide +kernel
theorem dX3_addBeasts_54 : decode cX3_addBeasts 54 = .ok (.iload_n 2, 1) := by decide +kernel
theorem dX3_addBeasts_55 : decode cX3_addBeasts 55 = .ok (.aload_n 0, 1) := by decide +kernel
theorem dX3_addBeasts_56 : decode cX3_addBeasts 56 = .ok (.getfield 27, 3) := by decide +kernel
theorem dX3_addBeasts_59 : decode cX3_addBeasts 59 = .ok (.getfield 88, 3) := by decide +kernel
theorem dX3_addBeasts_62 : decode cX3_addBeasts 62 = .ok (.iload_n 1, 1) := by decide +kernel
theorem dX3_addBeasts_63 : decode cX3_addBeasts 63 = .ok (.aaload, 1) := by decide +kernel
theorem dX3_addBeasts_64 : decode cX3_addBeasts 64 = .ok (.iload_n 3, 1) := by decide +kernel
theorem dX3_addBeasts_65 : decode cX3_addBeasts 65 = .ok (.iaload, 1) := by decide +kernel
theorem dX3_addBeasts_66 : decode cX3_addBeasts 66 = .ok (.imul, 1) := by decide +kernel
theorem dX3_addBeasts_67 : decode cX3_addBeasts 67 = .ok (.iadd, 1) := by decide +kernel
theorem dX3_addBeasts_68 : decode cX3_addBeasts 68 = .ok (.iastore, 1) := by decide +kernel
theorem dX3_addBeasts_69 : decode cX3_addBeasts 69 = .ok (.iinc 3 1, 3) := by decide +kernel
theorem dX3_addBeasts_72 : decode cX3_addBeasts 72 = .ok (.goto (-30), 3) := by decide +kernel
theorem dX3_addBeasts_75 : decode cX3_addBeasts 75 = .ok (.return_, 1) := by decide +kernel
theorem dX3_excess_0 : decode cX3_excess 0 = .ok (.iconst 0, 1) := by decide +kernel
theorem dX3_excess_1 : decode cX3_excess 1 = .ok (.istore_n 2, 1) := by decide +kernel
theorem dX3_excess_2 : decode cX3_excess 2 = .ok (.iconst 0, 1) := by decide +kernel
theorem dX3_excess_3 : decode cX3_excess 3 = .ok (.istore_n 3, 1) := by decide +kernel
theorem dX3_excess_4 : decode cX3_excess 4 = .ok (.iload_n 3, 1) := by decide +kernel
theorem dX3_excess_5 : decode cX3_excess 5 = .ok (.iconst 3, 1) := by decide +kernel
theorem dX3_excess_6 : decode cX3_excess 6 = .ok (.if_icmp .ge 43, 3) := by decide +kernel
theorem dX3_excess_9 : decode cX3_excess 9 = .ok (.aload_n 1, 1) := by decide +kernel
theorem dX3_excess_10 : decode cX3_excess 10 = .ok (.iload_n 3, 1) := by decide +kernel
theorem dX3_excess_11 : decode cX3_excess 11 = .ok (.iaload, 1) := by decide +kernel
theorem dX3_excess_12 : decode cX3_excess 12 = .ok (.iconst (-1), 1) := by decide +kernel
theorem dX3_excess_13 : decode cX3_excess 13 = .ok (.if_icmp .eq 30, 3) := by decide +kernel
theorem dX3_excess_16 : decode cX3_excess 16 = .ok (.aload_n 0, 1) := by decide +kernel
theorem dX3_excess_17 : decode cX3_excess 17 = .ok (.getfield 15, 3) := by decide +kernel
theorem dX3_excess_20 : decode cX3_excess 20 = .ok (.iload_n 3, 1) := by decide +kernel
theorem dX3_excess_21 : decode cX3_excess 21 = .ok (.iaload, 1) := by decide +kernel
theorem dX3_excess_22 : decode cX3_excess 22 = .ok (.aload_n 1, 1) := by decide +kernel
theorem dX3_excess_23 : decode cX3_excess 23 = .ok (.iload_n 3, 1) := by decide +kernel
theorem dX3_excess_24 : decode cX3_excess 24 = .ok (.iaload, 1) := by decide +kernel
theorem dX3_excess_25 : decode cX3_excess 25 = .ok (.if_icmp .ge 5, 3) := by decide +kernel
theorem dX3_excess_28 : decode cX3_excess 28 = .ok (.iconst (-1), 1) := by decide +kernel
theorem dX3_excess_29 : decode cX3_excess 29 = .ok (.ireturn, 1) := by decide +kernel
theorem dX3_excess_30 : decode cX3_excess 30 = .ok (.iload_n 2, 1) := by decide +kernel
theorem dX3_excess_31 : decode cX3_excess 31 = .ok (.aload_n 0, 1) := by decide +kernel
theorem dX3_excess_32 : decode cX3_excess 32 = .ok (.getfield 15, 3) := by decide +kernel
theorem dX3_excess_35 : decode cX3_excess 35 = .ok (.iload_n 3, 1) := by decide +kernel
theorem dX3_excess_36 : decode cX3_excess 36 = .ok (.iaload, 1) := by decide +kernel
theorem dX3_excess_37 : decode cX3_excess 37 = .ok (.aload_n 1, 1) := by decide +kernel
theorem dX3_excess_38 : decode cX3_excess 38 = .ok (.iload_n 3, 1) := by decide +kernel
theorem dX3_excess_39 : decode cX3_excess 39 = .ok (.iaload, 1) := by decide +kernel
theorem dX3_excess_40 : decode cX3_excess 40 = .ok (.isub, 1) := by decide +kernel
theorem dX3_excess_41 : decode cX3_excess 41 = .ok (.iadd, 1) := by decide +kernel
theorem dX3_excess_42 : decode cX3_excess 42 = .ok (.istore_n 2, 1) := by decide +kernel
theorem dX3_excess_43 : decode cX3_excess 43 = .ok (.iinc 3 1, 3) := by decide +kernel
theorem dX3_excess_46 : decode cX3_excess 46 = .ok (.goto (-42), 3) := by decide +kernel
theorem dX3_excess_49 : decode cX3_excess 49 = .ok (.iload_n 2, 1) := by decide +kernel
theorem dX3_excess_50 : decode cX3_excess 50 = .ok (.ireturn, 1) := by decide +kernel
theorem dX3_isBeyond_0 : decode cX3_isBeyond 0 = .ok (.iconst 0, 1) := by decide +kernel
theorem dX3_isBeyond_1 : decode cX3_isBeyond 1 = .ok (.istore_n 2, 1) := by decide +kernel
theorem dX3_isBeyond_2 : decode cX3_isBeyond 2 = .ok (.iload_n 2, 1) := by decide +kernel
theorem dX3_isBeyond_3 : decode cX3_isBeyond 3 = .ok (.iconst 3, 1) := by decide +kernel
theorem dX3_isBeyond_4 : decode cX3_isBeyond 4 = .ok (.if_icmp .ge 30, 3) := by decide +kernel
theorem dX3_isBeyond_7 : decode cX3_isBeyond 7 = .ok (.aload_n 1, 1) := by decide +kernel
theorem dX3_isBeyond_8 : decode cX3_isBeyond 8 = .ok (.iload_n 2, 1) := by decide +kernel
theorem dX3_isBeyond_9 : decode cX3_isBeyond 9 = .ok (.iaload, 1) := by decide +kernel
theorem dX3_isBeyond_10 : decode cX3_isBeyond 10 = .ok (.iconst (-1), 1) := by decide +kernel
theorem dX3_isBeyond_11 : decode cX3_isBeyond 11 = .ok (.if_icmp .eq 17, 3) := by decide +kernel
theorem dX3_isBeyond_14 : decode cX3_isBeyond 14 = .ok (.aload_n 0, 1) := by decide +kernel
theorem dX3_isBeyond_15 : decode cX3_isBeyond 15 = .ok (.getfield 15, 3) := by decide +kernel
theorem dX3_isBeyond_18 : decode cX3_isBeyond 18 = .ok (.iload_n 2, 1) := by decide +kernel
theorem dX3_isBeyond_19 : decode cX3_isBeyond 19 = .ok (.iaload, 1) := by decide +kernel
theorem dX3_isBeyond_20 : decode cX3_isBeyond 20 = .ok (.aload_n 1, 1) := by decide +kernel
theorem dX3_isBeyond_21 : decode cX3_isBeyond 21 = .ok (.iload_n 2, 1) := by decide +kernel
theorem dX3_isBeyond_22 : decode cX3_isBeyond 22 = .ok (.iaload, 1) := by decide +kernel
theorem dX3_isBeyond_23 : decode cX3_isBeyond 23 = .ok (.if_icmp .le 5, 3) := by decide +kernel
theorem dX3_isBeyond_26 : decode cX3_isBeyond 26 = .ok (.iconst 1, 1) := by decide +kernel
theorem dX3_isBeyond_27 : decode cX3_isBeyond 27 = .ok (.ireturn, 1) := by decide +kernel
theorem dX3_isBeyond_28 : decode cX3_isBeyond 28 = .ok (.iinc 2 1, 3) := by decide +kernel
theorem dX3_isBeyond_31 : decode cX3_isBeyond 31 = .ok (.goto (-29), 3) := by decide +kernel
theorem dX3_isBeyond_34 : decode cX3_isBeyond 34 = .ok (.iconst 0, 1) := by decide +kernel
theorem dX3_isBeyond_35 : decode cX3_isBeyond 35 = .ok (.ireturn, 1) := by decide +kernel
theorem dX3_keep_0 : decode cX3_keep 0 = .ok (.aload_n 0, 1) := by decide +kernel
theorem dX3_keep_1 : decode cX3_keep 1 = .ok (.getfield 31, 3) := by decide +kernel
theorem dX3_keep_4 : decode cX3_keep 4 = .ok (.ifCond .eq 14, 3) := by decide +kernel
theorem dX3_keep_7 : decode cX3_keep 7 = .ok (.aload_n 0, 1) := by decide +kernel
theorem dX3_keep_8 : decode cX3_keep 8 = .ok (.getfield 73, 3) := by decide +kernel
theorem dX3_keep_11 : decode cX3_keep 11 = .ok (.aload_n 0, 1) := by decide +kernel
theorem dX3_keep_12 : decode cX3_keep 12 = .ok (.getfield 35, 3) := by decide +kernel
theorem dX3_keep_15 : decode cX3_keep 15 = .ok (.if_icmp .ge 25, 3) := by decide +kernel
theorem dX3_keep_18 : decode cX3_keep 18 = .ok (.aload_n 0, 1) := by decide +kernel
theorem dX3_keep_19 : decode cX3_keep 19 = .ok (.aload_n 0, 1) := by decide +kernel
theorem dX3_keep_20 : decode cX3_keep 20 = .ok (.getfield 73, 3) := by decide +kernel
theorem dX3_keep_23 : decode cX3_keep 23 = .ok (.putfield 35, 3) := by decide +kernel
theorem dX3_keep_26 : decode cX3_keep 26 = .ok (.aload_n 0, 1) := by decide +kernel
theorem dX3_keep_27 : decode cX3_keep 27 = .ok (.getfield 9, 3) := by decide +kernel
theorem dX3_keep_30 : decode cX3_keep 30 = .ok (.iconst 0, 1) := by decide +kernel
theorem dX3_keep_31 : decode cX3_keep 31 = .ok (.aload_n 0, 1) := by decide +kernel
theorem dX3_keep_32 : decode cX3_keep 32 = .ok (.getfield 18, 3) := by decide +kernel
theorem dX3_keep_35 : decode cX3_keep 35 = .ok (.iconst 0, 1) := by decide +kernel
theorem dX3_keep_36 : decode cX3_keep 36 = .ok (.iconst 5, 1) := by decide +kernel
theorem dX3_keep_37 : decode cX3_keep 37 = .ok (.invokestatic 92, 3) := by decide +kernel
theorem dX3_keep_40 : decode cX3_keep 40 = .ok (.aload_n 0, 1) := by decide +kernel
theorem dX3_keep_41 : decode cX3_keep 41 = .ok (.aload_n 0, 1) := by decide +kernel
theorem dX3_keep_42 : decode cX3_keep 42 = .ok (.getfield 38, 3) := by decide +kernel
theorem dX3_keep_45 : decode cX3_keep 45 = .ok (.aload_n 0, 1) := by decide +kernel
theorem dX3_keep_46 : decode cX3_keep 46 = .ok (.getfield 73, 3) := by decide +kernel
theorem dX3_keep_49 : decode cX3_keep 49 = .ok (.invokestatic 98, 3) := by decide +kernel
theorem dX3_keep_52 : decode cX3_keep 52 = .ok (.putfield 38, 3) := by decide +kernel
theorem dX3_keep_55 : decode cX3_keep 55 = .ok (.aload_n 0, 1) := by decide +kernel
theorem dX3_keep_56 : decode cX3_keep 56 = .ok (.dup, 1) := by decide +kernel
theorem dX3_keep_57 : decode cX3_keep 57 = .ok (.getfield 31, 3) := by decide +kernel
theorem dX3_keep_60 : decode cX3_keep 60 = .ok (.iconst 1, 1) := by decide +kernel
theorem dX3_keep_61 : decode cX3_keep 61 = .ok (.iadd, 1) := by decide +kernel
theorem dX3_keep_62 : decode cX3_keep 62 = .ok (.putfield 31, 3) := by decide +kernel
theorem dX3_keep_65 : decode cX3_keep 65 = .ok (.iconst 0, 1) := by decide +kernel
theorem dX3_keep_66 : decode cX3_keep 66 = .ok (.istore_n 1, 1) := by decide +kernel
theorem dX3_keep_67 : decode cX3_keep 67 = .ok (.iload_n 1, 1) := by decide +kernel
theorem dX3_keep_68 : decode cX3_keep 68 = .ok (.aload_n 0, 1) := by decide +kernel
theorem dX3_keep_69 : decode cX3_keep 69 = .ok (.getfield 27, 3) := by decide +kernel
theorem dX3_keep_72 : decode cX3_keep 72 = .ok (.getfield 76, 3) := by decide +kernel
theorem dX3_keep_75 : decode cX3_keep 75 = .ok (.if_icmp .ge 47, 3) := by decide +kernel
theorem dX3_keep_78 : decode cX3_keep 78 = .ok (.aload_n 0, 1) := by decide +kernel
theorem dX3_keep_79 : decode cX3_keep 79 = .ok (.getfield 21, 3) := by decide +kernel
theorem dX3_keep_82 : decode cX3_keep 82 = .ok (.iload_n 1, 1) := by decide +kernel
theorem dX3_keep_83 : decode cX3_keep 83 = .ok (.dup2, 1) := by decide +kernel
theorem dX3_keep_84 : decode cX3_keep 84 = .ok (.iaload, 1) := by decide +kernel
theorem dX3_keep_85 : decode cX3_keep 85 = .ok (.aload_n 0, 1) := by decide +kernel
theorem dX3_keep_86 : decode cX3_keep 86 = .ok (.getfield 9, 3) := by decide +kernel
theorem dX3_keep_89 : decode cX3_keep 89 = .ok (.iload_n 1, 1) := by decide +kernel
theorem dX3_keep_90 : decode cX3_keep 90 = .ok (.iaload, 1) := by decide +kernel
theorem dX3_keep_91 : decode cX3_keep 91 = .ok (.ifCond .le 7, 3) := by decide +kernel
theorem dX3_keep_94 : decode cX3_keep 94 = .ok (.iconst 1, 1) := by decide +kernel
theorem dX3_keep_95 : decode cX3_keep 95 = .ok (.goto 4, 3) := by decide +kernel
theorem dX3_keep_98 : decode cX3_keep 98 = .ok (.iconst 0, 1) := by decide +kernel
theorem dX3_keep_99 : decode cX3_keep 99 = .ok (.iadd, 1) := by decide +kernel
theorem dX3_keep_100 : decode cX3_keep 100 = .ok (.iastore, 1) := by decide +kernel
theorem dX3_keep_101 : decode cX3_keep 101 = .ok (.aload_n 0, 1) := by decide +kernel
theorem dX3_keep_102 : decode cX3_keep 102 = .ok (.getfield 24, 3) := by decide +kernel
theorem dX3_keep_105 : decode cX3_keep 105 = .ok (.iload_n 1, 1) := by decide +kernel
theorem dX3_keep_106 : decode cX3_keep 106 = .ok (.dup2, 1) := by decide +kernel
theorem dX3_keep_107 : decode cX3_keep 107 = .ok (.iaload, 1) := by decide +kernel
theorem dX3_keep_108 : decode cX3_keep 108 = .ok (.aload_n 0, 1) := by decide +kernel
theorem dX3_keep_109 : decode cX3_keep 109 = .ok (.getfield 9, 3) := by decide +kernel
theorem dX3_keep_112 : decode cX3_keep 112 = .ok (.iload_n 1, 1) := by decide +kernel
theorem dX3_keep_113 : decode cX3_keep 113 = .ok (.iaload, 1) := by decide +kernel
theorem dX3_keep_114 : decode cX3_keep 114 = .ok (.iadd, 1) := by decide +kernel
theorem dX3_keep_115 : decode cX3_keep 115 = .ok (.iastore, 1) := by decide +kernel
theorem dX3_keep_116 : decode cX3_keep 116 = .ok (.iinc 1 1, 3) := by decide +kernel
theorem dX3_keep_119 : decode cX3_keep 119 = .ok (.goto (-52), 3) := by decide +kernel
theorem dX3_keep_122 : decode cX3_keep 122 = .ok (.return_, 1) := by decide +kernel
theorem dX4_init_0 : decode cX4_init 0 = .ok (.aload_n 0, 1) := by decide +kernel
theorem dX4_init_1 : decode cX4_init 1 = .ok (.invokespecial 3, 3) := by decide +kernel
theorem dX4_init_4 : decode cX4_init 4 = .ok (.aload_n 0, 1) := by decide +kernel
theorem dX4_init_5 : decode cX4_init 5 = .ok (.iconst 5, 1) := by decide +kernel
theorem dX4_init_6 : decode cX4_init 6 = .ok (.iconst 3, 1) := by decide +kernel
theorem dX4_init_7 : decode cX4_init 7 = .ok (.multianewarray 9 2, 4) := by decide +kernel
theorem dX4_init_11 : decode cX4_init 11 = .ok (.putfield 11, 3) := by decide +kernel
theorem dX4_init_14 : decode cX4_init 14 = .ok (.aload_n 0, 1) := by decide +kernel
theorem dX4_init_15 : decode cX4_init 15 = .ok (.iconst 5, 1) := by decide +kernel
theorem dX4_init_16 : decode cX4_init 16 = .ok (.newarray .int, 2) := by decide +kernel
theorem dX4_init_18 : decode cX4_init 18 = .ok (.putfield 16, 3) := by decide +kernel
theorem dX4_init_21 : decode cX4_init 21 = .ok (.aload_n 0, 1) := by decide +kernel
theorem dX4_init_22 : decode cX4_init 22 = .ok (.bipush 6, 2) := by decide +kernel
theorem dX4_init_24 : decode cX4_init 24 = .ok (.newarray .int, 2) := by decide +kernel
theorem dX4_init_26 : decode cX4_init 26 = .ok (.putfield 20, 3) := by decide +kernel
theorem dX4_init_29 : decode cX4_init 29 = .ok (.return_, 1) := by decide +kernel
theorem dX4_look_0 : decode cX4_look 0 = .ok (.aload_n 0, 1) := by decide +kernel
theorem dX4_look_1 : decode cX4_look 1 = .ok (.aload_n 1, 1) := by decide +kernel
theorem dX4_look_2 : decode cX4_look 2 = .ok (.getfield 23, 3) := by decide +kernel
theorem dX4_look_5 : decode cX4_look 5 = .ok (.putfield 29, 3) := by decide +kernel
theorem dX4_look_8 : decode cX4_look 8 = .ok (.aload_n 0, 1) := by decide +kernel
theorem dX4_look_9 : decode cX4_look 9 = .ok (.aload_n 2, 1) := by decide +kernel
theorem dX4_look_10 : decode cX4_look 10 = .ok (.invokevirtual 30, 3) := by decide +kernel
theorem dX4_look_13 : decode cX4_look 13 = .ok (.putfield 36, 3) := by decide +kernel
theorem dX4_look_16 : decode cX4_look 16 = .ok (.iconst 0, 1) := by decide +kernel
theorem dX4_look_17 : decode cX4_look 17 = .ok (.istore 4, 2) := by decide +kernel
theorem dX4_look_19 : decode cX4_look 19 = .ok (.iload 4, 2) := by decide +kernel
theorem dX4_look_21 : decode cX4_look 21 = .ok (.aload_n 0, 1) := by decide +kernel
theorem dX4_look_22 : decode cX4_look 22 = .ok (.getfield 29, 3) := by decide +kernel
theorem dX4_look_25 : decode cX4_look 25 = .ok (.if_icmp .ge 165, 3) := by decide +kernel
theorem dX4_look_28 : decode cX4_look 28 = .ok (.aload_n 1, 1) := by decide +kernel
theorem dX4_look_29 : decode cX4_look 29 = .ok (.getfield 39, 3) := by decide +kernel
theorem dX4_look_32 : decode cX4_look 32 = .ok (.iload 4, 2) := by decide +kernel
theorem dX4_look_34 : decode cX4_look 34 = .ok (.aaload, 1) := by decide +kernel
theorem dX4_look_35 : decode cX4_look 35 = .ok (.astore 5, 2) := by decide +kernel
theorem dX4_look_37 : decode cX4_look 37 = .ok (.aload_n 0, 1) := by decide +kernel
theorem dX4_look_38 : decode cX4_look 38 = .ok (.getfield 20, 3) := by decide +kernel
theorem dX4_look_41 : decode cX4_look 41 = .ok (.iconst 0, 1) := by decide +kernel
theorem dX4_look_42 : decode cX4_look 42 = .ok (.iload 4, 2) := by decide +kernel
theorem dX4_look_44 : decode cX4_look 44 = .ok (.iastore, 1) := by decide +kernel
theorem dX4_look_45 : decode cX4_look 45 = .ok (.aload_n 0, 1) := by decide +kernel
theorem dX4_look_46 : decode cX4_look 46 = .ok (.getfield 20, 3) := by decide +kernel
theorem dX4_look_49 : decode cX4_look 49 = .ok (.iconst 1, 1) := by decide +kernel
theorem dX4_look_50 : decode cX4_look 50 = .ok (.aload 5, 2) := by decide +kernel
theorem dX4_look_52 : decode cX4_look 52 = .ok (.iconst 0, 1) := by decide +kernel
theorem dX4_look_53 : decode cX4_look 53 = .ok (.iaload, 1) := by decide +kernel
theorem dX4_look_54 : decode cX4_look 54 = .ok (.iastore, 1) := by decide +kernel
theorem dX4_look_55 : decode cX4_look 55 = .ok (.aload_n 0, 1) := by decide +kernel
theorem dX4_look_56 : decode cX4_look 56 = .ok (.getfield 20, 3) := by decide +kernel
theorem dX4_look_59 : decode cX4_look 59 = .ok (.iconst 2, 1) := by decide +kernel
theorem dX4_look_60 : decode cX4_look 60 = .ok (.aload 5, 2) := by decide +kernel
theorem dX4_look_62 : decode cX4_look 62 = .ok (.iconst 1, 1) := by decide +kernel
theorem dX4_look_63 : decode cX4_look 63 = .ok (.iaload, 1) := by decide +kernel
theorem dX4_look_64 : decode cX4_look 64 = .ok (.iastore, 1) := by decide +kernel
theorem dX4_look_65 : decode cX4_look 65 = .ok (.aload_n 0, 1) := by decide +kernel
theorem dX4_look_66 : decode cX4_look 66 = .ok (.getfield 20, 3) := by decide +kernel
theorem dX4_look_69 : decode cX4_look 69 = .ok (.iconst 3, 1) := by decide +kernel
theorem dX4_look_70 : decode cX4_look 70 = .ok (.aload 5, 2) := by decide +kernel
theorem dX4_look_72 : decode cX4_look 72 = .ok (.iconst 2, 1) := by decide +kernel
theorem dX4_look_73 : decode cX4_look 73 = .ok (.iaload, 1) := by decide +kernel
theorem dX4_look_74 : decode cX4_look 74 = .ok (.iastore, 1) := by decide +kernel
theorem dX4_look_75 : decode cX4_look 75 = .ok (.aload_n 0, 1) := by decide +kernel
theorem dX4_look_76 : decode cX4_look 76 = .ok (.getfield 20, 3) := by decide +kernel
theorem dX4_look_79 : decode cX4_look 79 = .ok (.iconst 4, 1) := by decide +kernel
theorem dX4_look_80 : decode cX4_look 80 = .ok (.iload_n 3, 1) := by decide +kernel
theorem dX4_look_81 : decode cX4_look 81 = .ok (.iastore, 1) := by decide +kernel
theorem dX4_look_82 : decode cX4_look 82 = .ok (.aload_n 0, 1) := by decide +kernel
theorem dX4_look_83 : decode cX4_look 83 = .ok (.getfield 20, 3) := by decide +kernel
theorem dX4_look_86 : decode cX4_look 86 = .ok (.iconst 5, 1) := by decide +kernel
theorem dX4_look_87 : decode cX4_look 87 = .ok (.bipush 9, 2) := by decide +kernel
theorem dX4_look_89 : decode cX4_look 89 = .ok (.iastore, 1) := by decide +kernel
theorem dX4_look_90 : decode cX4_look 90 = .ok (.aload_n 0, 1) := by decide +kernel
theorem dX4_look_91 : decode cX4_look 91 = .ok (.getfield 16, 3) := by decide +kernel
theorem dX4_look_94 : decode cX4_look 94 = .ok (.iload 4, 2) := by decide +kernel
theorem dX4_look_96 : decode cX4_look 96 = .ok (.aload 5, 2) := by decide +kernel
theorem dX4_look_98 : decode cX4_look 98 = .ok (.iconst 5, 1) := by decide +kernel
theorem dX4_look_99 : decode cX4_look 99 = .ok (.iaload, 1) := by decide +kernel
theorem dX4_look_100 : decode cX4_look 100 = .ok (.aload_n 2, 1) := by decide +kernel
theorem dX4_look_101 : decode cX4_look 101 = .ok (.iconst 0, 1) := by decide +kernel
theorem dX4_look_102 : decode cX4_look 102 = .ok (.aload_n 0, 1) := by decide +kernel
theorem dX4_look_103 : decode cX4_look 103 = .ok (.getfield 20, 3) := by decide +kernel
theorem dX4_look_106 : decode cX4_look 106 = .ok (.invokevirtual 42, 3) := by decide +kernel
theorem dX4_look_109 : decode cX4_look 109 = .ok (.iadd, 1) := by decide +kernel
theorem dX4_look_110 : decode cX4_look 110 = .ok (.iastore, 1) := by decide +kernel
theorem dX4_look_111 : decode cX4_look 111 = .ok (.iconst 0, 1) := by decide +kernel
theorem dX4_look_112 : decode cX4_look 112 = .ok (.istore 6, 2) := by decide +kernel
theorem dX4_look_114 : decode cX4_look 114 = .ok (.iload 6, 2) := by decide +kernel
theorem dX4_look_116 : decode cX4_look 116 = .ok (.iconst 3, 1) := by decide +kernel
theorem dX4_look_117 : decode cX4_look 117 = .ok (.if_icmp .ge 67, 3) := by decide +kernel
theorem dX4_look_120 : decode cX4_look 120 = .ok (.aload_n 0, 1) := by decide +kernel
theorem dX4_look_121 : decode cX4_look 121 = .ok (.getfield 20, 3) := by decide +kernel
theorem dX4_look_124 : decode cX4_look 124 = .ok (.iconst 5, 1) := by decide +kernel
theorem dX4_look_125 : decode cX4_look 125 = .ok (.iload 6, 2) := by decide +kernel
theorem dX4_look_127 : decode cX4_look 127 = .ok (.iastore, 1) := by decide +kernel
theorem dX4_look_128 : decode cX4_look 128 = .ok (.aload 5, 2) := by decide +kernel
theorem dX4_look_130 : decode cX4_look 130 = .ok (.iconst 2, 1) := by decide +kernel
theorem dX4_look_131 : decode cX4_look 131 = .ok (.iload 6, 2) := by decide +kernel
theorem dX4_look_133 : decode cX4_look 133 = .ok (.iadd, 1) := by decide +kernel
theorem dX4_look_134 : decode cX4_look 134 = .ok (.iaload, 1) := by decide +kernel
theorem dX4_look_135 : decode cX4_look 135 = .ok (.aload_n 2, 1) := by decide +kernel
theorem dX4_look_136 : decode cX4_look 136 = .ok (.iconst 1, 1) := by decide +kernel
theorem dX4_look_137 : decode cX4_look 137 = .ok (.aload_n 0, 1) := by decide +kernel
theorem dX4_look_138 : decode cX4_look 138 = .ok (.getfield 20, 3) := by decide +kernel
theorem dX4_look_141 : decode cX4_look 141 = .ok (.invokevirtual 42, 3) := by decide +kernel
theorem dX4_look_144 : decode cX4_look 144 = .ok (.iadd, 1) := by decide +kernel
theorem dX4_look_145 : decode cX4_look 145 = .ok (.istore 7, 2) := by decide +kernel
theorem dX4_look_147 : decode cX4_look 147 = .ok (.aload_n 0, 1) := by decide +kernel
theorem dX4_look_148 : decode cX4_look 148 = .ok (.getfield 11, 3) := by decide +kernel
theorem dX4_look_151 : decode cX4_look 151 = .ok (.iload 4, 2) := by decide +kernel
theorem dX4_look_153 : decode cX4_look 153 = .ok (.aaload, 1) := by decide +kernel
theorem dX4_look_154 : decode cX4_look 154 = .ok (.iload 6, 2) := by decide +kernel
theorem dX4_look_156 : decode cX4_look 156 = .ok (.aload 5, 2) := by decide +kernel
theorem dX4_look_158 : decode cX4_look 158 = .ok (.iload 6, 2) := by decide +kernel
theorem dX4_look_160 : decode cX4_look 160 = .ok (.iload 7, 2) := by decide +kernel
theorem dX4_look_162 : decode cX4_look 162 = .ok (.iload_n 3, 1) := by decide +kernel
theorem dX4_look_163 : decode cX4_look 163 = .ok (.aload_n 1, 1) := by decide +kernel
theorem dX4_look_164 : decode cX4_look 164 = .ok (.getfield 46, 3) := by decide +kernel
theorem dX4_look_167 : decode cX4_look 167 = .ok (.iload 4, 2) := by decide +kernel
theorem dX4_look_169 : decode cX4_look 169 = .ok (.aaload, 1) := by decide +kernel
theorem dX4_look_170 : decode cX4_look 170 = .ok (.iload_n 3, 1) := by decide +kernel
theorem dX4_look_171 : decode cX4_look 171 = .ok (.iconst 3, 1) := by decide +kernel
theorem dX4_look_172 : decode cX4_look 172 = .ok (.irem, 1) := by decide +kernel
theorem dX4_look_173 : decode cX4_look 173 = .ok (.iaload, 1) := by decide +kernel
theorem dX4_look_174 : decode cX4_look 174 = .ok (.invokestatic 49, 3) := by decide +kernel
theorem dX4_look_177 : decode cX4_look 177 = .ok (.iastore, 1) := by decide +kernel
theorem dX4_look_178 : decode cX4_look 178 = .ok (.iinc 6 1, 3) := by decide +kernel
theorem dX4_look_181 : decode cX4_look 181 = .ok (.goto (-67), 3) := by decide +kernel
theorem dX4_look_184 : decode cX4_look 184 = .ok (.iinc 4 1, 3) := by decide +kernel
theorem dX4_look_187 : decode cX4_look 187 = .ok (.goto (-168), 3) := by decide +kernel
theorem dX4_look_190 : decode cX4_look 190 = .ok (.return_, 1) := by decide +kernel
theorem dX4_shown_0 : decode cX4_shown 0 = .ok (.aload_n 0, 1) := by decide +kernel
theorem dX4_shown_1 : decode cX4_shown 1 = .ok (.iconst 0, 1) := by decide +kernel
theorem dX4_shown_2 : decode cX4_shown 2 = .ok (.iaload, 1) := by decide +kernel
theorem dX4_shown_3 : decode cX4_shown 3 = .ok (.istore 5, 2) := by decide +kernel
theorem dX4_shown_5 : decode cX4_shown 5 = .ok (.iload 5, 2) := by decide +kernel
theorem dX4_shown_7 : decode cX4_shown 7 = .ok (.iconst 5, 1) := by decide +kernel
theorem dX4_shown_8 : decode cX4_shown 8 = .ok (.if_icmp .ne 12, 3) := by decide +kernel
theorem dX4_shown_11 : decode cX4_shown 11 = .ok (.iload_n 3, 1) := by decide +kernel
theorem dX4_shown_12 : decode cX4_shown 12 = .ok (.aload_n 0, 1) := by decide +kernel
theorem dX4_shown_13 : decode cX4_shown 13 = .ok (.iconst 1, 1) := by decide +kernel
theorem dX4_shown_14 : decode cX4_shown 14 = .ok (.iaload, 1) := by decide +kernel
theorem dX4_shown_15 : decode cX4_shown 15 = .ok (.if_icmp .ne 5, 3) := by decide +kernel
theorem dX4_shown_18 : decode cX4_shown 18 = .ok (.iconst 0, 1) := by decide +kernel
theorem dX4_shown_19 : decode cX4_shown 19 = .ok (.ireturn, 1) := by decide +kernel
theorem dX4_shown_20 : decode cX4_shown 20 = .ok (.iload_n 1, 1) := by decide +kernel
theorem dX4_shown_21 : decode cX4_shown 21 = .ok (.ifCond .ne 24, 3) := by decide +kernel
theorem dX4_shown_24 : decode cX4_shown 24 = .ok (.iload 5, 2) := by decide +kernel
theorem dX4_shown_26 : decode cX4_shown 26 = .ok (.iconst 3, 1) := by decide +kernel
theorem dX4_shown_27 : decode cX4_shown 27 = .ok (.invokestatic 53, 3) := by decide +kernel
theorem dX4_shown_30 : decode cX4_shown 30 = .ok (.ifCond .eq 13, 3) := by decide +kernel
theorem dX4_shown_33 : decode cX4_shown 33 = .ok (.iconst 0, 1) := by decide +kernel
theorem dX4_shown_34 : decode cX4_shown 34 = .ok (.iload_n 2, 1) := by decide +kernel
theorem dX4_shown_35 : decode cX4_shown 35 = .ok (.iconst 1, 1) := by decide +kernel
theorem dX4_shown_36 : decode cX4_shown 36 = .ok (.isub, 1) := by decide +kernel
theorem dX4_shown_37 : decode cX4_shown 37 = .ok (.invokestatic 57, 3) := by decide +kernel
theorem dX4_shown_40 : decode cX4_shown 40 = .ok (.goto 4, 3) := by decide +kernel
theorem dX4_shown_43 : decode cX4_shown 43 = .ok (.iload_n 2, 1) := by decide +kernel
theorem dX4_shown_44 : decode cX4_shown 44 = .ok (.ireturn, 1) := by decide +kernel
theorem dX4_shown_45 : decode cX4_shown 45 = .ok (.iload_n 1, 1) := by decide +kernel
theorem dX4_shown_46 : decode cX4_shown 46 = .ok (.iconst 1, 1) := by decide +kernel
theorem dX4_shown_47 : decode cX4_shown 47 = .ok (.if_icmp .ne 40, 3) := by decide +kernel
theorem dX4_shown_50 : decode cX4_shown 50 = .ok (.iload 5, 2) := by decide +kernel
theorem dX4_shown_52 : decode cX4_shown 52 = .ok (.iconst 2, 1) := by decide +kernel
theorem dX4_shown_53 : decode cX4_shown 53 = .ok (.invokestatic 53, 3) := by decide +kernel
theorem dX4_shown_56 : decode cX4_shown 56 = .ok (.ifCond .eq 10, 3) := by decide +kernel
theorem dX4_shown_59 : decode cX4_shown 59 = .ok (.iload_n 3, 1) := by decide +kernel
theorem dX4_shown_60 : decode cX4_shown 60 = .ok (.iconst 5, 1) := by decide +kernel
theorem dX4_shown_61 : decode cX4_shown 61 = .ok (.if_icmp .ge 5, 3) := by decide +kernel
theorem dX4_shown_64 : decode cX4_shown 64 = .ok (.iconst 0, 1) := by decide +kernel
theorem dX4_shown_65 : decode cX4_shown 65 = .ok (.ireturn, 1) := by decide +kernel
theorem dX4_shown_66 : decode cX4_shown 66 = .ok (.iload 5, 2) := by decide +kernel
theorem dX4_shown_68 : decode cX4_shown 68 = .ok (.iconst 1, 1) := by decide +kernel
theorem dX4_shown_69 : decode cX4_shown 69 = .ok (.invokestatic 53, 3) := by decide +kernel
theorem dX4_shown_72 : decode cX4_shown 72 = .ok (.ifCond .eq 13, 3) := by decide +kernel
theorem dX4_shown_75 : decode cX4_shown 75 = .ok (.iload_n 2, 1) := by decide +kernel
theorem dX4_shown_76 : decode cX4_shown 76 = .ok (.aload_n 0, 1) := by decide +kernel
theorem dX4_shown_77 : decode cX4_shown 77 = .ok (.iconst 1, 1) := by decide +kernel
theorem dX4_shown_78 : decode cX4_shown 78 = .ok (.iaload, 1) := by decide +kernel
theorem dX4_shown_79 : decode cX4_shown 79 = .ok (.iconst 2, 1) := by decide +kernel
theorem dX4_shown_80 : decode cX4_shown 80 = .ok (.irem, 1) := by decide +kernel
theorem dX4_shown_81 : decode cX4_shown 81 = .ok (.iadd, 1) := by decide +kernel
theorem dX4_shown_82 : decode cX4_shown 82 = .ok (.goto 4, 3) := by decide +kernel
theorem dX4_shown_85 : decode cX4_shown 85 = .ok (.iload_n 2, 1) := by decide +kernel
theorem dX4_shown_86 : decode cX4_shown 86 = .ok (.ireturn, 1) := by decide +kernel
theorem dX4_shown_87 : decode cX4_shown 87 = .ok (.iload 5, 2) := by decide +kernel
theorem dX4_shown_89 : decode cX4_shown 89 = .ok (.bipush 6, 2) := by decide +kernel
theorem dX4_shown_91 : decode cX4_shown 91 = .ok (.if_icmp .ne 6, 3) := by decide +kernel
theorem dX4_shown_94 : decode cX4_shown 94 = .ok (.iload 4, 2) := by decide +kernel
theorem dX4_shown_96 : decode cX4_shown 96 = .ok (.ireturn, 1) := by decide +kernel
theorem dX4_shown_97 : decode cX4_shown 97 = .ok (.iload 5, 2) := by decide +kernel
theorem dX4_shown_99 : decode cX4_shown 99 = .ok (.iconst 4, 1) := by decide +kernel
theorem dX4_shown_100 : decode cX4_shown 100 = .ok (.if_icmp .ne 9, 3) := by decide +kernel
theorem dX4_shown_103 : decode cX4_shown 103 = .ok (.iconst 2, 1) := by decide +kernel
theorem dX4_shown_104 : decode cX4_shown 104 = .ok (.iload_n 2, 1) := by decide +kernel
theorem dX4_shown_105 : decode cX4_shown 105 = .ok (.imul, 1) := by decide +kernel
theorem dX4_shown_106 : decode cX4_shown 106 = .ok (.goto 4, 3) := by decide +kernel
theorem dX4_shown_109 : decode cX4_shown 109 = .ok (.iload_n 2, 1) := by decide +kernel
theorem dX4_shown_110 : decode cX4_shown 110 = .ok (.ireturn, 1) := by decide +kernel
theorem dX4_total_0 : decode cX4_total 0 = .ok (.iconst 0, 1) := by decide +kernel
theorem dX4_total_1 : decode cX4_total 1 = .ok (.istore_n 3, 1) := by decide +kernel
theorem dX4_total_2 : decode cX4_total 2 = .ok (.iconst 0, 1) := by decide +kernel
theorem dX4_total_3 : decode cX4_total 3 = .ok (.istore 4, 2) := by decide +kernel
theorem dX4_total_5 : decode cX4_total 5 = .ok (.iload 4, 2) := by decide +kernel
theorem dX4_total_7 : decode cX4_total 7 = .ok (.aload_n 0, 1) := by decide +kernel
theorem dX4_total_8 : decode cX4_total 8 = .ok (.getfield 29, 3) := by decide +kernel
theorem dX4_total_11 : decode cX4_total 11 = .ok (.if_icmp .ge 26, 3) := by decide +kernel
theorem dX4_total_14 : decode cX4_total 14 = .ok (.iload_n 3, 1) := by decide +kernel
theorem dX4_total_15 : decode cX4_total 15 = .ok (.aload_n 1, 1) := by decide +kernel
theorem dX4_total_16 : decode cX4_total 16 = .ok (.iload 4, 2) := by decide +kernel
theorem dX4_total_18 : decode cX4_total 18 = .ok (.iaload, 1) := by decide +kernel
theorem dX4_total_19 : decode cX4_total 19 = .ok (.aload_n 0, 1) := by decide +kernel
theorem dX4_total_20 : decode cX4_total 20 = .ok (.getfield 11, 3) := by decide +kernel
theorem dX4_total_23 : decode cX4_total 23 = .ok (.iload 4, 2) := by decide +kernel
theorem dX4_total_25 : decode cX4_total 25 = .ok (.aaload, 1) := by decide +kernel
theorem dX4_total_26 : decode cX4_total 26 = .ok (.iload_n 2, 1) := by decide +kernel
theorem dX4_total_27 : decode cX4_total 27 = .ok (.iaload, 1) := by decide +kernel
theorem dX4_total_28 : decode cX4_total 28 = .ok (.imul, 1) := by decide +kernel
theorem dX4_total_29 : decode cX4_total 29 = .ok (.iadd, 1) := by decide +kernel
theorem dX4_total_30 : decode cX4_total 30 = .ok (.istore_n 3, 1) := by decide +kernel
theorem dX4_total_31 : decode cX4_total 31 = .ok (.iinc 4 1, 3) := by decide +kernel
theorem dX4_total_34 : decode cX4_total 34 = .ok (.goto (-29), 3) := by decide +kernel
theorem dX4_total_37 : decode cX4_total 37 = .ok (.iload_n 3, 1) := by decide +kernel
theorem dX4_total_38 : decode cX4_total 38 = .ok (.ireturn, 1) := by decide +kernel
theorem dX4_tollOf_0 : decode cX4_tollOf 0 = .ok (.iconst 0, 1) := by decide +kernel
theorem dX4_tollOf_1 : decode cX4_tollOf 1 = .ok (.istore_n 2, 1) := by decide +kernel
theorem dX4_tollOf_2 : decode cX4_tollOf 2 = .ok (.iconst 0, 1) := by decide +kernel
theorem dX4_tollOf_3 : decode cX4_tollOf 3 = .ok (.istore_n 3, 1) := by decide +kernel
theorem dX4_tollOf_4 : decode cX4_tollOf 4 = .ok (.iload_n 3, 1) := by decide +kernel
theorem dX4_tollOf_5 : decode cX4_tollOf 5 = .ok (.aload_n 0, 1) := by decide +kernel
theorem dX4_tollOf_6 : decode cX4_tollOf 6 = .ok (.getfield 29, 3) := by decide +kernel
theorem dX4_tollOf_9 : decode cX4_tollOf 9 = .ok (.if_icmp .ge 22, 3) := by decide +kernel
theorem dX4_tollOf_12 : decode cX4_tollOf 12 = .ok (.iload_n 2, 1) := by decide +kernel
theorem dX4_tollOf_13 : decode cX4_tollOf 13 = .ok (.aload_n 1, 1) := by decide +kernel
theorem dX4_tollOf_14 : decode cX4_tollOf 14 = .ok (.iload_n 3, 1) := by decide +kernel
theorem dX4_tollOf_15 : decode cX4_tollOf 15 = .ok (.iaload, 1) := by decide +kernel
theorem dX4_tollOf_16 : decode cX4_tollOf 16 = .ok (.aload_n 0, 1) := by decide +kernel
theorem dX4_tollOf_17 : decode cX4_tollOf 17 = .ok (.getfield 16, 3) := by decide +kernel
theorem dX4_tollOf_20 : decode cX4_tollOf 20 = .ok (.iload_n 3, 1) := by decide +kernel
theorem dX4_tollOf_21 : decode cX4_tollOf 21 = .ok (.iaload, 1) := by decide +kernel
theorem dX4_tollOf_22 : decode cX4_tollOf 22 = .ok (.imul, 1) := by decide +kernel
theorem dX4_tollOf_23 : decode cX4_tollOf 23 = .ok (.iadd, 1) := by decide +kernel
theorem dX4_tollOf_24 : decode cX4_tollOf 24 = .ok (.istore_n 2, 1) := by decide +kernel
theorem dX4_tollOf_25 : decode cX4_tollOf 25 = .ok (.iinc 3 1, 3) := by decide +kernel
theorem dX4_tollOf_28 : decode cX4_tollOf 28 = .ok (.goto (-24), 3) := by decide +kernel
theorem dX4_tollOf_31 : decode cX4_tollOf 31 = .ok (.iload_n 2, 1) := by decide +kernel
theorem dX4_tollOf_32 : decode cX4_tollOf 32 = .ok (.ireturn, 1) := by decide +kernel
theorem dX5_init_0 : decode cX5_init 0 = .ok (.aload_n 0, 1) := by decide +kernel
theorem dX5_init_1 : decode cX5_init 1 = .ok (.invokespecial 3, 3) := by decide +kernel
theorem dX5_init_4 : decode cX5_init 4 = .ok (.aload_n 0, 1) := by decide +kernel
theorem dX5_init_5 : decode cX5_init 5 = .ok (.iconst 5, 1) := by decide +kernel
theorem dX5_init_6 : decode cX5_init 6 = .ok (.bipush 6, 2) := by decide +kernel
theorem dX5_init_8 : decode cX5_init 8 = .ok (.multianewarray 9 2, 4) := by decide +kernel
theorem dX5_init_12 : decode cX5_init 12 = .ok (.putfield 11, 3) := by decide +kernel
theorem dX5_init_15 : decode cX5_init 15 = .ok (.aload_n 0, 1) := by decide +kernel
theorem dX5_init_16 : decode cX5_init 16 = .ok (.iconst 5, 1) := by decide +kernel
theorem dX5_init_17 : decode cX5_init 17 = .ok (.iconst 3, 1) := by decide +kernel
theorem dX5_init_18 : decode cX5_init 18 = .ok (.multianewarray 9 2, 4) := by decide +kernel
theorem dX5_init_22 : decode cX5_init 22 = .ok (.putfield 16, 3) := by decide +kernel
theorem dX5_init_25 : decode cX5_init 25 = .ok (.aload_n 0, 1) := by decide +kernel
theorem dX5_init_26 : decode cX5_init 26 = .ok (.iconst 2, 1) := by decide +kernel
theorem dX5_init_27 : decode cX5_init 27 = .ok (.iconst 5, 1) := by decide +kernel
theorem dX5_init_28 : decode cX5_init 28 = .ok (.multianewarray 9 2, 4) := by decide +kernel
theorem dX5_init_32 : decode cX5_init 32 = .ok (.putfield 19, 3) := by decide +kernel
theorem dX5_init_35 : decode cX5_init 35 = .ok (.aload_n 0, 1) := by decide +kernel
theorem dX5_init_36 : decode cX5_init 36 = .ok (.iconst 3, 1) := by decide +kernel
theorem dX5_init_37 : decode cX5_init 37 = .ok (.newarray .int, 2) := by decide +kernel
theorem dX5_init_39 : decode cX5_init 39 = .ok (.dup, 1) := by decide +kernel
theorem dX5_init_40 : decode cX5_init 40 = .ok (.iconst 0, 1) := by decide +kernel
theorem dX5_init_41 : decode cX5_init 41 = .ok (.iconst (-1), 1) := by decide +kernel
theorem dX5_init_42 : decode cX5_init 42 = .ok (.iastore, 1) := by decide +kernel
theorem dX5_init_43 : decode cX5_init 43 = .ok (.dup, 1) := by decide +kernel
theorem dX5_init_44 : decode cX5_init 44 = .ok (.iconst 1, 1) := by decide +kernel
theorem dX5_init_45 : decode cX5_init 45 = .ok (.iconst (-1), 1) := by decide +kernel
theorem dX5_init_46 : decode cX5_init 46 = .ok (.iastore, 1) := by decide +kernel
theorem dX5_init_47 : decode cX5_init 47 = .ok (.dup, 1) := by decide +kernel
theorem dX5_init_48 : decode cX5_init 48 = .ok (.iconst 2, 1) := by decide +kernel
theorem dX5_init_49 : decode cX5_init 49 = .ok (.iconst (-1), 1) := by decide +kernel
theorem dX5_init_50 : decode cX5_init 50 = .ok (.iastore, 1) := by decide +kernel
theorem dX5_init_51 : decode cX5_init 51 = .ok (.putfield 22, 3) := by decide +kernel
theorem dX5_init_54 : decode cX5_init 54 = .ok (.aload_n 0, 1) := by decide +kernel
theorem dX5_init_55 : decode cX5_init 55 = .ok (.bipush 12, 2) := by decide +kernel
theorem dX5_init_57 : decode cX5_init 57 = .ok (.newarray .int, 2) := by decide +kernel
theorem dX5_init_59 : decode cX5_init 59 = .ok (.putfield 26, 3) := by decide +kernel
theorem dX5_init_62 : decode cX5_init 62 = .ok (.aload_n 0, 1) := by decide +kernel
theorem dX5_init_63 : decode cX5_init 63 = .ok (.bipush 12, 2) := by decide +kernel
theorem dX5_init_65 : decode cX5_init 65 = .ok (.newarray .int, 2) := by decide +kernel
theorem dX5_init_67 : decode cX5_init 67 = .ok (.putfield 29, 3) := by decide +kernel
theorem dX5_init_70 : decode cX5_init 70 = .ok (.aload_n 0, 1) := by decide +kernel
theorem dX5_init_71 : decode cX5_init 71 = .ok (.iconst (-1), 1) := by decide +kernel
theorem dX5_init_72 : decode cX5_init 72 = .ok (.putfield 32, 3) := by decide +kernel
theorem dX5_init_75 : decode cX5_init 75 = .ok (.return_, 1) := by decide +kernel
theorem dX5_become_0 : decode cX5_become 0 = .ok (.aload_n 0, 1) := by decide +kernel
theorem dX5_become_1 : decode cX5_become 1 = .ok (.aload_n 1, 1) := by decide +kernel
theorem dX5_become_2 : decode cX5_become 2 = .ok (.getfield 36, 3) := by decide +kernel
theorem dX5_become_5 : decode cX5_become 5 = .ok (.putfield 36, 3) := by decide +kernel
theorem dX5_become_8 : decode cX5_become 8 = .ok (.iconst 0, 1) := by decide +kernel
theorem dX5_become_9 : decode cX5_become 9 = .ok (.istore_n 2, 1) := by decide +kernel
theorem dX5_become_10 : decode cX5_become 10 = .ok (.iload_n 2, 1) := by decide +kernel
theorem dX5_become_11 : decode cX5_become 11 = .ok (.iconst 5, 1) := by decide +kernel
theorem dX5_become_12 : decode cX5_become 12 = .ok (.if_icmp .ge 46, 3) := by decide +kernel
theorem dX5_become_15 : decode cX5_become 15 = .ok (.aload_n 1, 1) := by decide +kernel
theorem dX5_become_16 : decode cX5_become 16 = .ok (.getfield 11, 3) := by decide +kernel
theorem dX5_become_19 : decode cX5_become 19 = .ok (.iload_n 2, 1) := by decide +kernel
theorem dX5_become_20 : decode cX5_become 20 = .ok (.aaload, 1) := by decide +kernel
theorem dX5_become_21 : decode cX5_become 21 = .ok (.iconst 0, 1) := by decide +kernel
theorem dX5_become_22 : decode cX5_become 22 = .ok (.aload_n 0, 1) := by decide +kernel
theorem dX5_become_23 : decode cX5_become 23 = .ok (.getfield 11, 3) := by decide +kernel
theorem dX5_become_26 : decode cX5_become 26 = .ok (.iload_n 2, 1) := by decide +kernel
theorem dX5_become_27 : decode cX5_become 27 = .ok (.aaload, 1) := by decide +kernel
theorem dX5_become_28 : decode cX5_become 28 = .ok (.iconst 0, 1) := by decide +kernel
theorem dX5_become_29 : decode cX5_become 29 = .ok (.bipush 6, 2) := by decide +kernel
theorem dX5_become_31 : decode cX5_become 31 = .ok (.invokestatic 39, 3) := by decide +kernel
theorem dX5_become_34 : decode cX5_become 34 = .ok (.aload_n 1, 1) := by decide +kernel
theorem dX5_become_35 : decode cX5_become 35 = .ok (.getfield 16, 3) := by decide +kernel
theorem dX5_become_38 : decode cX5_become 38 = .ok (.iload_n 2, 1) := by decide +kernel
theorem dX5_become_39 : decode cX5_become 39 = .ok (.aaload, 1) := by decide +kernel
theorem dX5_become_40 : decode cX5_become 40 = .ok (.iconst 0, 1) := by decide +kernel
theorem dX5_become_41 : decode cX5_become 41 = .ok (.aload_n 0, 1) := by decide +kernel
theorem dX5_become_42 : decode cX5_become 42 = .ok (.getfield 16, 3) := by decide +kernel
theorem dX5_become_45 : decode cX5_become 45 = .ok (.iload_n 2, 1) := by decide +kernel
theorem dX5_become_46 : decode cX5_become 46 = .ok (.aaload, 1) := by decide +kernel
theorem dX5_become_47 : decode cX5_become 47 = .ok (.iconst 0, 1) := by decide +kernel
theorem dX5_become_48 : decode cX5_become 48 = .ok (.iconst 3, 1) := by decide +kernel
theorem dX5_become_49 : decode cX5_become 49 = .ok (.invokestatic 39, 3) := by decide +kernel
theorem dX5_become_52 : decode cX5_become 52 = .ok (.iinc 2 1, 3) := by decide +kernel
theorem dX5_become_55 : decode cX5_become 55 = .ok (.goto (-45), 3) := by decide +kernel
theorem dX5_become_58 : decode cX5_become 58 = .ok (.aload_n 1, 1) := by decide +kernel
theorem dX5_become_59 : decode cX5_become 59 = .ok (.getfield 19, 3) := by decide +kernel
theorem dX5_become_62 : decode cX5_become 62 = .ok (.iconst 0, 1) := by decide +kernel
theorem dX5_become_63 : decode cX5_become 63 = .ok (.aaload, 1) := by decide +kernel
theorem dX5_become_64 : decode cX5_become 64 = .ok (.iconst 0, 1) := by decide +kernel
theorem dX5_become_65 : decode cX5_become 65 = .ok (.aload_n 0, 1) := by decide +kernel
theorem dX5_become_66 : decode cX5_become 66 = .ok (.getfield 19, 3) := by decide +kernel
theorem dX5_become_69 : decode cX5_become 69 = .ok (.iconst 0, 1) := by decide +kernel
theorem dX5_become_70 : decode cX5_become 70 = .ok (.aaload, 1) := by decide +kernel
theorem dX5_become_71 : decode cX5_become 71 = .ok (.iconst 0, 1) := by decide +kernel
theorem dX5_become_72 : decode cX5_become 72 = .ok (.iconst 5, 1) := by decide +kernel
theorem dX5_become_73 : decode cX5_become 73 = .ok (.invokestatic 39, 3) := by decide +kernel
theorem dX5_become_76 : decode cX5_become 76 = .ok (.aload_n 1, 1) := by decide +kernel
theorem dX5_become_77 : decode cX5_become 77 = .ok (.getfield 19, 3) := by decide +kernel
theorem dX5_become_80 : decode cX5_become 80 = .ok (.iconst 1, 1) := by decide +kernel
theorem dX5_become_81 : decode cX5_become 81 = .ok (.aaload, 1) := by decide +kernel
theorem dX5_become_82 : decode cX5_become 82 = .ok (.iconst 0, 1) := by decide +kernel
theorem dX5_become_83 : decode cX5_become 83 = .ok (.aload_n 0, 1) := by decide +kernel
theorem dX5_become_84 : decode cX5_become 84 = .ok (.getfield 19, 3) := by decide +kernel
theorem dX5_become_87 : decode cX5_become 87 = .ok (.iconst 1, 1) := by decide +kernel
theorem dX5_become_88 : decode cX5_become 88 = .ok (.aaload, 1) := by decide +kernel
theorem dX5_become_89 : decode cX5_become 89 = .ok (.iconst 0, 1) := by decide +kernel
theorem dX5_become_90 : decode cX5_become 90 = .ok (.iconst 5, 1) := by decide +kernel
theorem dX5_become_91 : decode cX5_become 91 = .ok (.invokestatic 39, 3) := by decide +kernel
theorem dX5_become_94 : decode cX5_become 94 = .ok (.aload_n 0, 1) := by decide +kernel
theorem dX5_become_95 : decode cX5_become 95 = .ok (.aload_n 1, 1) := by decide +kernel
theorem dX5_become_96 : decode cX5_become 96 = .ok (.getfield 45, 3) := by decide +kernel
theorem dX5_become_99 : decode cX5_become 99 = .ok (.putfield 45, 3) := by decide +kernel
theorem dX5_become_102 : decode cX5_become 102 = .ok (.aload_n 1, 1) := by decide +kernel
theorem dX5_become_103 : decode cX5_become 103 = .ok (.getfield 22, 3) := by decide +kernel
theorem dX5_become_106 : decode cX5_become 106 = .ok (.iconst 0, 1) := by decide +kernel
theorem dX5_become_107 : decode cX5_become 107 = .ok (.aload_n 0, 1) := by decide +kernel
theorem dX5_become_108 : decode cX5_become 108 = .ok (.getfield 22, 3) := by decide +kernel
theorem dX5_become_111 : decode cX5_become 111 = .ok (.iconst 0, 1) := by decide +kernel
theorem dX5_become_112 : decode cX5_become 112 = .ok (.iconst 3, 1) := by decide +kernel
theorem dX5_become_113 : decode cX5_become 113 = .ok (.invokestatic 39, 3) := by decide +kernel
theorem dX5_become_116 : decode cX5_become 116 = .ok (.aload_n 0, 1) := by decide +kernel
theorem dX5_become_117 : decode cX5_become 117 = .ok (.aload_n 1, 1) := by decide +kernel
theorem dX5_become_118 : decode cX5_become 118 = .ok (.getfield 48, 3) := by decide +kernel
theorem dX5_become_121 : decode cX5_become 121 = .ok (.putfield 48, 3) := by decide +kernel
theorem dX5_become_124 : decode cX5_become 124 = .ok (.aload_n 1, 1) := by decide +kernel
theorem dX5_become_125 : decode cX5_become 125 = .ok (.getfield 26, 3) := by decide +kernel
theorem dX5_become_128 : decode cX5_become 128 = .ok (.iconst 0, 1) := by decide +kernel
theorem dX5_become_129 : decode cX5_become 129 = .ok (.aload_n 0, 1) := by decide +kernel
theorem dX5_become_130 : decode cX5_become 130 = .ok (.getfield 26, 3) := by decide +kernel
theorem dX5_become_133 : decode cX5_become 133 = .ok (.iconst 0, 1) := by decide +kernel
theorem dX5_become_134 : decode cX5_become 134 = .ok (.bipush 12, 2) := by decide +kernel
theorem dX5_become_136 : decode cX5_become 136 = .ok (.invokestatic 39, 3) := by decide +kernel
theorem dX5_become_139 : decode cX5_become 139 = .ok (.aload_n 1, 1) := by decide +kernel
theorem dX5_become_140 : decode cX5_become 140 = .ok (.getfield 29, 3) := by decide +kernel
theorem dX5_become_143 : decode cX5_become 143 = .ok (.iconst 0, 1) := by decide +kernel
theorem dX5_become_144 : decode cX5_become 144 = .ok (.aload_n 0, 1) := by decide +kernel
theorem dX5_become_145 : decode cX5_become 145 = .ok (.getfield 29, 3) := by decide +kernel
theorem dX5_become_148 : decode cX5_become 148 = .ok (.iconst 0, 1) := by decide +kernel
theorem dX5_become_149 : decode cX5_become 149 = .ok (.bipush 12, 2) := by decide +kernel
theorem dX5_become_151 : decode cX5_become 151 = .ok (.invokestatic 39, 3) := by decide +kernel
theorem dX5_become_154 : decode cX5_become 154 = .ok (.aload_n 0, 1) := by decide +kernel
theorem dX5_become_155 : decode cX5_become 155 = .ok (.aload_n 1, 1) := by decide +kernel
theorem dX5_become_156 : decode cX5_become 156 = .ok (.getfield 32, 3) := by decide +kernel
theorem dX5_become_159 : decode cX5_become 159 = .ok (.putfield 32, 3) := by decide +kernel
theorem dX5_become_162 : decode cX5_become 162 = .ok (.return_, 1) := by decide +kernel
theorem dX6_init_0 : decode cX6_init 0 = .ok (.aload_n 0, 1) := by decide +kernel
theorem dX6_init_1 : decode cX6_init 1 = .ok (.invokespecial 3, 3) := by decide +kernel
theorem dX6_init_4 : decode cX6_init 4 = .ok (.aload_n 0, 1) := by decide +kernel
theorem dX6_init_5 : decode cX6_init 5 = .ok (.iconst (-1), 1) := by decide +kernel
theorem dX6_init_6 : decode cX6_init 6 = .ok (.putfield 9, 3) := by decide +kernel
theorem dX6_init_9 : decode cX6_init 9 = .ok (.aload_n 0, 1) := by decide +kernel
theorem dX6_init_10 : decode cX6_init 10 = .ok (.bipush 60, 2) := by decide +kernel
theorem dX6_init_12 : decode cX6_init 12 = .ok (.newarray .long, 2) := by decide +kernel
theorem dX6_init_14 : decode cX6_init 14 = .ok (.putfield 15, 3) := by decide +kernel
theorem dX6_init_17 : decode cX6_init 17 = .ok (.return_, 1) := by decide +kernel
theorem dX6_become_0 : decode cX6_become 0 = .ok (.aload_n 0, 1) := by decide +kernel
theorem dX6_become_1 : decode cX6_become 1 = .ok (.iload_n 1, 1) := by decide +kernel
