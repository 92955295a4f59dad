theorem dL_bench_96 : decode cL_bench 96 = .ok (.iconst 3, 1) := by decide +kernel
theorem dL_bench_97 : decode cL_bench 97 = .ok (.iload 8, 2) := by decide +kernel
theorem dL_bench_99 : decode cL_bench 99 = .ok (.imul, 1) := by decide +kernel
theorem dL_bench_100 : decode cL_bench 100 = .ok (.iadd, 1) := by decide +kernel
theorem dL_bench_101 : decode cL_bench 101 = .ok (.iconst 1, 1) := by decide +kernel
theorem dL_bench_102 : decode cL_bench 102 = .ok (.iadd, 1) := by decide +kernel
theorem dL_bench_103 : decode cL_bench 103 = .ok (.ldc 180, 2) := by decide +kernel
theorem dL_bench_105 : decode cL_bench 105 = .ok (.invokestatic 181, 3) := by decide +kernel
theorem dL_bench_108 : decode cL_bench 108 = .ok (.istore 9, 2) := by decide +kernel
theorem dL_bench_110 : decode cL_bench 110 = .ok (.aload_n 0, 1) := by decide +kernel
theorem dL_bench_111 : decode cL_bench 111 = .ok (.iload_n 1, 1) := by decide +kernel
theorem dL_bench_112 : decode cL_bench 112 = .ok (.iconst 3, 1) := by decide +kernel
theorem dL_bench_113 : decode cL_bench 113 = .ok (.iload 8, 2) := by decide +kernel
theorem dL_bench_115 : decode cL_bench 115 = .ok (.imul, 1) := by decide +kernel
theorem dL_bench_116 : decode cL_bench 116 = .ok (.iadd, 1) := by decide +kernel
theorem dL_bench_117 : decode cL_bench 117 = .ok (.iconst 2, 1) := by decide +kernel
theorem dL_bench_118 : decode cL_bench 118 = .ok (.iadd, 1) := by decide +kernel
theorem dL_bench_119 : decode cL_bench 119 = .ok (.ldc 180, 2) := by decide +kernel
theorem dL_bench_121 : decode cL_bench 121 = .ok (.invokestatic 181, 3) := by decide +kernel
theorem dL_bench_124 : decode cL_bench 124 = .ok (.istore 10, 2) := by decide +kernel
theorem dL_bench_126 : decode cL_bench 126 = .ok (.aload_n 2, 1) := by decide +kernel
theorem dL_bench_127 : decode cL_bench 127 = .ok (.iload 8, 2) := by decide +kernel
theorem dL_bench_129 : decode cL_bench 129 = .ok (.bipush 6, 2) := by decide +kernel
theorem dL_bench_131 : decode cL_bench 131 = .ok (.if_icmp .ge 13, 3) := by decide +kernel
theorem dL_bench_134 : decode cL_bench 134 = .ok (.bipush 6, 2) := by decide +kernel
theorem dL_bench_136 : decode cL_bench 136 = .ok (.iload 8, 2) := by decide +kernel
theorem dL_bench_138 : decode cL_bench 138 = .ok (.iconst 2, 1) := by decide +kernel
theorem dL_bench_139 : decode cL_bench 139 = .ok (.irem, 1) := by decide +kernel
theorem dL_bench_140 : decode cL_bench 140 = .ok (.iadd, 1) := by decide +kernel
theorem dL_bench_141 : decode cL_bench 141 = .ok (.goto 15, 3) := by decide +kernel
theorem dL_bench_144 : decode cL_bench 144 = .ok (.aload_n 0, 1) := by decide +kernel
theorem dL_bench_145 : decode cL_bench 145 = .ok (.iload_n 1, 1) := by decide +kernel
theorem dL_bench_146 : decode cL_bench 146 = .ok (.iconst 3, 1) := by decide +kernel
theorem dL_bench_147 : decode cL_bench 147 = .ok (.iload 8, 2) := by decide +kernel
theorem dL_bench_149 : decode cL_bench 149 = .ok (.imul, 1) := by decide +kernel
theorem dL_bench_150 : decode cL_bench 150 = .ok (.iadd, 1) := by decide +kernel
theorem dL_bench_151 : decode cL_bench 151 = .ok (.bipush 14, 2) := by decide +kernel
theorem dL_bench_153 : decode cL_bench 153 = .ok (.invokestatic 181, 3) := by decide +kernel
theorem dL_bench_156 : decode cL_bench 156 = .ok (.iload 9, 2) := by decide +kernel
theorem dL_bench_158 : decode cL_bench 158 = .ok (.iload 10, 2) := by decide +kernel
theorem dL_bench_160 : decode cL_bench 160 = .ok (.aload_n 3, 1) := by decide +kernel
theorem dL_bench_161 : decode cL_bench 161 = .ok (.aload 5, 2) := by decide +kernel
theorem dL_bench_163 : decode cL_bench 163 = .ok (.aload 6, 2) := by decide +kernel
theorem dL_bench_165 : decode cL_bench 165 = .ok (.invokestatic 185, 3) := by decide +kernel
theorem dL_bench_168 : decode cL_bench 168 = .ok (.ifCond .ne 5, 3) := by decide +kernel
theorem dL_bench_171 : decode cL_bench 171 = .ok (.iconst 0, 1) := by decide +kernel
theorem dL_bench_172 : decode cL_bench 172 = .ok (.ireturn, 1) := by decide +kernel
theorem dL_bench_173 : decode cL_bench 173 = .ok (.iload 10, 2) := by decide +kernel
theorem dL_bench_175 : decode cL_bench 175 = .ok (.bipush 7, 2) := by decide +kernel
theorem dL_bench_177 : decode cL_bench 177 = .ok (.irem, 1) := by decide +kernel
theorem dL_bench_178 : decode cL_bench 178 = .ok (.ifCond .ne 13, 3) := by decide +kernel
theorem dL_bench_181 : decode cL_bench 181 = .ok (.iconst 1, 1) := by decide +kernel
theorem dL_bench_182 : decode cL_bench 182 = .ok (.iload 9, 2) := by decide +kernel
theorem dL_bench_184 : decode cL_bench 184 = .ok (.bipush 120, 2) := by decide +kernel
theorem dL_bench_186 : decode cL_bench 186 = .ok (.irem, 1) := by decide +kernel
theorem dL_bench_187 : decode cL_bench 187 = .ok (.iadd, 1) := by decide +kernel
theorem dL_bench_188 : decode cL_bench 188 = .ok (.goto 9, 3) := by decide +kernel
theorem dL_bench_191 : decode cL_bench 191 = .ok (.iconst 1, 1) := by decide +kernel
theorem dL_bench_192 : decode cL_bench 192 = .ok (.iload 9, 2) := by decide +kernel
theorem dL_bench_194 : decode cL_bench 194 = .ok (.iconst 5, 1) := by decide +kernel
theorem dL_bench_195 : decode cL_bench 195 = .ok (.irem, 1) := by decide +kernel
theorem dL_bench_196 : decode cL_bench 196 = .ok (.iadd, 1) := by decide +kernel
theorem dL_bench_197 : decode cL_bench 197 = .ok (.istore 11, 2) := by decide +kernel
theorem dL_bench_199 : decode cL_bench 199 = .ok (.iconst 0, 1) := by decide +kernel
theorem dL_bench_200 : decode cL_bench 200 = .ok (.istore 12, 2) := by decide +kernel
theorem dL_bench_202 : decode cL_bench 202 = .ok (.iload 12, 2) := by decide +kernel
theorem dL_bench_204 : decode cL_bench 204 = .ok (.iload 11, 2) := by decide +kernel
theorem dL_bench_206 : decode cL_bench 206 = .ok (.if_icmp .ge 30, 3) := by decide +kernel
theorem dL_bench_209 : decode cL_bench 209 = .ok (.aload_n 2, 1) := by decide +kernel
theorem dL_bench_210 : decode cL_bench 210 = .ok (.aload_n 3, 1) := by decide +kernel
theorem dL_bench_211 : decode cL_bench 211 = .ok (.aload 4, 2) := by decide +kernel
theorem dL_bench_213 : decode cL_bench 213 = .ok (.aload 5, 2) := by decide +kernel
theorem dL_bench_215 : decode cL_bench 215 = .ok (.aload 6, 2) := by decide +kernel
theorem dL_bench_217 : decode cL_bench 217 = .ok (.iload 7, 2) := by decide +kernel
theorem dL_bench_219 : decode cL_bench 219 = .ok (.invokestatic 189, 3) := by decide +kernel
theorem dL_bench_222 : decode cL_bench 222 = .ok (.ifCond .ne 5, 3) := by decide +kernel
theorem dL_bench_225 : decode cL_bench 225 = .ok (.iconst 0, 1) := by decide +kernel
theorem dL_bench_226 : decode cL_bench 226 = .ok (.ireturn, 1) := by decide +kernel
theorem dL_bench_227 : decode cL_bench 227 = .ok (.iinc 7 1, 3) := by decide +kernel
theorem dL_bench_230 : decode cL_bench 230 = .ok (.iinc 12 1, 3) := by decide +kernel
theorem dL_bench_233 : decode cL_bench 233 = .ok (.goto (-31), 3) := by decide +kernel
theorem dL_bench_236 : decode cL_bench 236 = .ok (.iinc 8 1, 3) := by decide +kernel
theorem dL_bench_239 : decode cL_bench 239 = .ok (.goto (-152), 3) := by decide +kernel
theorem dL_bench_242 : decode cL_bench 242 = .ok (.iconst 1, 1) := by decide +kernel
theorem dL_bench_243 : decode cL_bench 243 = .ok (.ireturn, 1) := by decide +kernel
theorem dL_law_0 : decode cL_law 0 = .ok (.aload_n 0, 1) := by decide +kernel
theorem dL_law_1 : decode cL_law 1 = .ok (.iconst 0, 1) := by decide +kernel
theorem dL_law_2 : decode cL_law 2 = .ok (.invokestatic 193, 3) := by decide +kernel
theorem dL_law_5 : decode cL_law 5 = .ok (.ifCond .eq 27, 3) := by decide +kernel
theorem dL_law_8 : decode cL_law 8 = .ok (.aload_n 0, 1) := by decide +kernel
theorem dL_law_9 : decode cL_law 9 = .ok (.sipush 135, 3) := by decide +kernel
theorem dL_law_12 : decode cL_law 12 = .ok (.invokestatic 193, 3) := by decide +kernel
theorem dL_law_15 : decode cL_law 15 = .ok (.ifCond .eq 17, 3) := by decide +kernel
theorem dL_law_18 : decode cL_law 18 = .ok (.aload_n 0, 1) := by decide +kernel
theorem dL_law_19 : decode cL_law 19 = .ok (.sipush 270, 3) := by decide +kernel
theorem dL_law_22 : decode cL_law 22 = .ok (.invokestatic 193, 3) := by decide +kernel
theorem dL_law_25 : decode cL_law 25 = .ok (.ifCond .eq 7, 3) := by decide +kernel
theorem dL_law_28 : decode cL_law 28 = .ok (.iconst 1, 1) := by decide +kernel
theorem dL_law_29 : decode cL_law 29 = .ok (.goto 4, 3) := by decide +kernel
theorem dL_law_32 : decode cL_law 32 = .ok (.iconst 0, 1) := by decide +kernel
theorem dL_law_33 : decode cL_law 33 = .ok (.ireturn, 1) := by decide +kernel
