theorem dL_isRelay_89 : decode cL_isRelay 89 = .ok (.lcmp, 1) := by decide +kernel
theorem dL_isRelay_90 : decode cL_isRelay 90 = .ok (.ifCond .ne 48, 3) := by decide +kernel
theorem dL_isRelay_93 : decode cL_isRelay 93 = .ok (.lload 11, 2) := by decide +kernel
theorem dL_isRelay_95 : decode cL_isRelay 95 = .ok (.aload_n 1, 1) := by decide +kernel
theorem dL_isRelay_96 : decode cL_isRelay 96 = .ok (.iload 10, 2) := by decide +kernel
theorem dL_isRelay_98 : decode cL_isRelay 98 = .ok (.bipush 12, 2) := by decide +kernel
theorem dL_isRelay_100 : decode cL_isRelay 100 = .ok (.iadd, 1) := by decide +kernel
theorem dL_isRelay_101 : decode cL_isRelay 101 = .ok (.laload, 1) := by decide +kernel
theorem dL_isRelay_102 : decode cL_isRelay 102 = .ok (.lcmp, 1) := by decide +kernel
theorem dL_isRelay_103 : decode cL_isRelay 103 = .ok (.ifCond .le 10, 3) := by decide +kernel
theorem dL_isRelay_106 : decode cL_isRelay 106 = .ok (.lload_n 3, 1) := by decide +kernel
theorem dL_isRelay_107 : decode cL_isRelay 107 = .ok (.lload 13, 2) := by decide +kernel
theorem dL_isRelay_109 : decode cL_isRelay 109 = .ok (.lcmp, 1) := by decide +kernel
theorem dL_isRelay_110 : decode cL_isRelay 110 = .ok (.ifCond .ne 28, 3) := by decide +kernel
theorem dL_isRelay_113 : decode cL_isRelay 113 = .ok (.lload 11, 2) := by decide +kernel
theorem dL_isRelay_115 : decode cL_isRelay 115 = .ok (.aload_n 1, 1) := by decide +kernel
theorem dL_isRelay_116 : decode cL_isRelay 116 = .ok (.iload 10, 2) := by decide +kernel
theorem dL_isRelay_118 : decode cL_isRelay 118 = .ok (.bipush 12, 2) := by decide +kernel
theorem dL_isRelay_120 : decode cL_isRelay 120 = .ok (.iadd, 1) := by decide +kernel
theorem dL_isRelay_121 : decode cL_isRelay 121 = .ok (.laload, 1) := by decide +kernel
theorem dL_isRelay_122 : decode cL_isRelay 122 = .ok (.lneg, 1) := by decide +kernel
theorem dL_isRelay_123 : decode cL_isRelay 123 = .ok (.lcmp, 1) := by decide +kernel
theorem dL_isRelay_124 : decode cL_isRelay 124 = .ok (.ifCond .ge 10, 3) := by decide +kernel
theorem dL_isRelay_127 : decode cL_isRelay 127 = .ok (.lload_n 3, 1) := by decide +kernel
theorem dL_isRelay_128 : decode cL_isRelay 128 = .ok (.lload 15, 2) := by decide +kernel
theorem dL_isRelay_130 : decode cL_isRelay 130 = .ok (.lcmp, 1) := by decide +kernel
theorem dL_isRelay_131 : decode cL_isRelay 131 = .ok (.ifCond .ne 7, 3) := by decide +kernel
theorem dL_isRelay_134 : decode cL_isRelay 134 = .ok (.iconst 1, 1) := by decide +kernel
theorem dL_isRelay_135 : decode cL_isRelay 135 = .ok (.goto 4, 3) := by decide +kernel
theorem dL_isRelay_138 : decode cL_isRelay 138 = .ok (.iconst 0, 1) := by decide +kernel
theorem dL_isRelay_139 : decode cL_isRelay 139 = .ok (.istore 17, 2) := by decide +kernel
theorem dL_isRelay_141 : decode cL_isRelay 141 = .ok (.aload 9, 2) := by decide +kernel
theorem dL_isRelay_143 : decode cL_isRelay 143 = .ok (.iconst 3, 1) := by decide +kernel
theorem dL_isRelay_144 : decode cL_isRelay 144 = .ok (.iload_n 2, 1) := by decide +kernel
theorem dL_isRelay_145 : decode cL_isRelay 145 = .ok (.iadd, 1) := by decide +kernel
theorem dL_isRelay_146 : decode cL_isRelay 146 = .ok (.dup2, 1) := by decide +kernel
theorem dL_isRelay_147 : decode cL_isRelay 147 = .ok (.iaload, 1) := by decide +kernel
theorem dL_isRelay_148 : decode cL_isRelay 148 = .ok (.iconst 1, 1) := by decide +kernel
theorem dL_isRelay_149 : decode cL_isRelay 149 = .ok (.iadd, 1) := by decide +kernel
theorem dL_isRelay_150 : decode cL_isRelay 150 = .ok (.iastore, 1) := by decide +kernel
theorem dL_isRelay_151 : decode cL_isRelay 151 = .ok (.aload_n 0, 1) := by decide +kernel
theorem dL_isRelay_152 : decode cL_isRelay 152 = .ok (.iload_n 2, 1) := by decide +kernel
theorem dL_isRelay_153 : decode cL_isRelay 153 = .ok (.invokevirtual 30, 3) := by decide +kernel
theorem dL_isRelay_156 : decode cL_isRelay 156 = .ok (.iconst 3, 1) := by decide +kernel
theorem dL_isRelay_157 : decode cL_isRelay 157 = .ok (.if_icmp .ne 35, 3) := by decide +kernel
theorem dL_isRelay_160 : decode cL_isRelay 160 = .ok (.iload 17, 2) := by decide +kernel
theorem dL_isRelay_162 : decode cL_isRelay 162 = .ok (.ifCond .eq 28, 3) := by decide +kernel
theorem dL_isRelay_165 : decode cL_isRelay 165 = .ok (.aload_n 0, 1) := by decide +kernel
theorem dL_isRelay_166 : decode cL_isRelay 166 = .ok (.iload_n 2, 1) := by decide +kernel
theorem dL_isRelay_167 : decode cL_isRelay 167 = .ok (.invokevirtual 39, 3) := by decide +kernel
theorem dL_isRelay_170 : decode cL_isRelay 170 = .ok (.iconst 1, 1) := by decide +kernel
theorem dL_isRelay_171 : decode cL_isRelay 171 = .ok (.if_icmp .ne 19, 3) := by decide +kernel
theorem dL_isRelay_174 : decode cL_isRelay 174 = .ok (.aload 9, 2) := by decide +kernel
theorem dL_isRelay_176 : decode cL_isRelay 176 = .ok (.iconst 3, 1) := by decide +kernel
theorem dL_isRelay_177 : decode cL_isRelay 177 = .ok (.iload_n 2, 1) := by decide +kernel
theorem dL_isRelay_178 : decode cL_isRelay 178 = .ok (.iadd, 1) := by decide +kernel
theorem dL_isRelay_179 : decode cL_isRelay 179 = .ok (.iaload, 1) := by decide +kernel
theorem dL_isRelay_180 : decode cL_isRelay 180 = .ok (.sipush 400, 3) := by decide +kernel
theorem dL_isRelay_183 : decode cL_isRelay 183 = .ok (.if_icmp .ge 7, 3) := by decide +kernel
theorem dL_isRelay_186 : decode cL_isRelay 186 = .ok (.iconst 1, 1) := by decide +kernel
theorem dL_isRelay_187 : decode cL_isRelay 187 = .ok (.goto 4, 3) := by decide +kernel
theorem dL_isRelay_190 : decode cL_isRelay 190 = .ok (.iconst 0, 1) := by decide +kernel
theorem dL_isRelay_191 : decode cL_isRelay 191 = .ok (.ireturn, 1) := by decide +kernel
theorem dL_isRelay_192 : decode cL_isRelay 192 = .ok (.ldc2_w 10, 3) := by decide +kernel
theorem dL_isRelay_195 : decode cL_isRelay 195 = .ok (.aload_n 1, 1) := by decide +kernel
theorem dL_isRelay_196 : decode cL_isRelay 196 = .ok (.iload 10, 2) := by decide +kernel
theorem dL_isRelay_198 : decode cL_isRelay 198 = .ok (.bipush 13, 2) := by decide +kernel
theorem dL_isRelay_200 : decode cL_isRelay 200 = .ok (.iadd, 1) := by decide +kernel
theorem dL_isRelay_201 : decode cL_isRelay 201 = .ok (.laload, 1) := by decide +kernel
theorem dL_isRelay_202 : decode cL_isRelay 202 = .ok (.lmul, 1) := by decide +kernel
theorem dL_isRelay_203 : decode cL_isRelay 203 = .ok (.aload_n 0, 1) := by decide +kernel
theorem dL_isRelay_204 : decode cL_isRelay 204 = .ok (.iload_n 2, 1) := by decide +kernel
theorem dL_isRelay_205 : decode cL_isRelay 205 = .ok (.iconst 0, 1) := by decide +kernel
theorem dL_isRelay_206 : decode cL_isRelay 206 = .ok (.invokevirtual 71, 3) := by decide +kernel
theorem dL_isRelay_209 : decode cL_isRelay 209 = .ok (.i2l, 1) := by decide +kernel
theorem dL_isRelay_210 : decode cL_isRelay 210 = .ok (.lload 11, 2) := by decide +kernel
theorem dL_isRelay_212 : decode cL_isRelay 212 = .ok (.lmul, 1) := by decide +kernel
theorem dL_isRelay_213 : decode cL_isRelay 213 = .ok (.lsub, 1) := by decide +kernel
theorem dL_isRelay_214 : decode cL_isRelay 214 = .ok (.aload_n 0, 1) := by decide +kernel
theorem dL_isRelay_215 : decode cL_isRelay 215 = .ok (.iload_n 2, 1) := by decide +kernel
theorem dL_isRelay_216 : decode cL_isRelay 216 = .ok (.iconst 2, 1) := by decide +kernel
theorem dL_isRelay_217 : decode cL_isRelay 217 = .ok (.invokevirtual 71, 3) := by decide +kernel
theorem dL_isRelay_220 : decode cL_isRelay 220 = .ok (.i2l, 1) := by decide +kernel
theorem dL_isRelay_221 : decode cL_isRelay 221 = .ok (.aload_n 1, 1) := by decide +kernel
theorem dL_isRelay_222 : decode cL_isRelay 222 = .ok (.iload 10, 2) := by decide +kernel
theorem dL_isRelay_224 : decode cL_isRelay 224 = .ok (.bipush 10, 2) := by decide +kernel
theorem dL_isRelay_226 : decode cL_isRelay 226 = .ok (.iadd, 1) := by decide +kernel
theorem dL_isRelay_227 : decode cL_isRelay 227 = .ok (.laload, 1) := by decide +kernel
theorem dL_isRelay_228 : decode cL_isRelay 228 = .ok (.lload 5, 2) := by decide +kernel
theorem dL_isRelay_230 : decode cL_isRelay 230 = .ok (.lsub, 1) := by decide +kernel
theorem dL_isRelay_231 : decode cL_isRelay 231 = .ok (.lmul, 1) := by decide +kernel
theorem dL_isRelay_232 : decode cL_isRelay 232 = .ok (.lsub, 1) := by decide +kernel
theorem dL_isRelay_233 : decode cL_isRelay 233 = .ok (.lstore 18, 2) := by decide +kernel
theorem dL_isRelay_235 : decode cL_isRelay 235 = .ok (.aload_n 0, 1) := by decide +kernel
theorem dL_isRelay_236 : decode cL_isRelay 236 = .ok (.iload_n 2, 1) := by decide +kernel
theorem dL_isRelay_237 : decode cL_isRelay 237 = .ok (.invokevirtual 39, 3) := by decide +kernel
theorem dL_isRelay_240 : decode cL_isRelay 240 = .ok (.istore 20, 2) := by decide +kernel
theorem dL_isRelay_242 : decode cL_isRelay 242 = .ok (.iload 17, 2) := by decide +kernel
theorem dL_isRelay_244 : decode cL_isRelay 244 = .ok (.ifCond .eq 73, 3) := by decide +kernel
theorem dL_isRelay_247 : decode cL_isRelay 247 = .ok (.aload_n 0, 1) := by decide +kernel
theorem dL_isRelay_248 : decode cL_isRelay 248 = .ok (.iload_n 2, 1) := by decide +kernel
theorem dL_isRelay_249 : decode cL_isRelay 249 = .ok (.invokevirtual 30, 3) := by decide +kernel
theorem dL_isRelay_252 : decode cL_isRelay 252 = .ok (.iconst 1, 1) := by decide +kernel
theorem dL_isRelay_253 : decode cL_isRelay 253 = .ok (.if_icmp .ne 64, 3) := by decide +kernel
theorem dL_isRelay_256 : decode cL_isRelay 256 = .ok (.iload 20, 2) := by decide +kernel
theorem dL_isRelay_258 : decode cL_isRelay 258 = .ok (.iconst 2, 1) := by decide +kernel
theorem dL_isRelay_259 : decode cL_isRelay 259 = .ok (.if_icmp .eq 21, 3) := by decide +kernel
theorem dL_isRelay_262 : decode cL_isRelay 262 = .ok (.iload 20, 2) := by decide +kernel
theorem dL_isRelay_264 : decode cL_isRelay 264 = .ok (.iconst 3, 1) := by decide +kernel
theorem dL_isRelay_265 : decode cL_isRelay 265 = .ok (.if_icmp .ne 52, 3) := by decide +kernel
theorem dL_isRelay_268 : decode cL_isRelay 268 = .ok (.aload 9, 2) := by decide +kernel
theorem dL_isRelay_270 : decode cL_isRelay 270 = .ok (.iconst 3, 1) := by decide +kernel
theorem dL_isRelay_271 : decode cL_isRelay 271 = .ok (.iload_n 2, 1) := by decide +kernel
theorem dL_isRelay_272 : decode cL_isRelay 272 = .ok (.iadd, 1) := by decide +kernel
theorem dL_isRelay_273 : decode cL_isRelay 273 = .ok (.iaload, 1) := by decide +kernel
theorem dL_isRelay_274 : decode cL_isRelay 274 = .ok (.sipush 400, 3) := by decide +kernel
theorem dL_isRelay_277 : decode cL_isRelay 277 = .ok (.if_icmp .ne 40, 3) := by decide +kernel
theorem dL_isRelay_280 : decode cL_isRelay 280 = .ok (.aload_n 0, 1) := by decide +kernel
theorem dL_isRelay_281 : decode cL_isRelay 281 = .ok (.iload_n 2, 1) := by decide +kernel
theorem dL_isRelay_282 : decode cL_isRelay 282 = .ok (.invokevirtual 82, 3) := by decide +kernel
theorem dL_isRelay_285 : decode cL_isRelay 285 = .ok (.lload 18, 2) := by decide +kernel
theorem dL_isRelay_287 : decode cL_isRelay 287 = .ok (.lcmp, 1) := by decide +kernel
theorem dL_isRelay_288 : decode cL_isRelay 288 = .ok (.ifCond .ne 29, 3) := by decide +kernel
theorem dL_isRelay_291 : decode cL_isRelay 291 = .ok (.iload 20, 2) := by decide +kernel
theorem dL_isRelay_293 : decode cL_isRelay 293 = .ok (.iconst 2, 1) := by decide +kernel
theorem dL_isRelay_294 : decode cL_isRelay 294 = .ok (.if_icmp .ne 19, 3) := by decide +kernel
theorem dL_isRelay_297 : decode cL_isRelay 297 = .ok (.aload_n 0, 1) := by decide +kernel
theorem dL_isRelay_298 : decode cL_isRelay 298 = .ok (.iload_n 2, 1) := by decide +kernel
theorem dL_isRelay_299 : decode cL_isRelay 299 = .ok (.aload_n 1, 1) := by decide +kernel
theorem dL_isRelay_300 : decode cL_isRelay 300 = .ok (.iload 10, 2) := by decide +kernel
