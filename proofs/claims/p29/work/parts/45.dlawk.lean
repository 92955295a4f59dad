theorem dL_step_13 : decode cL_step 13 = .ok (.tableswitch 997 0 9 #[55, 184, 255, 334, 516, 595, 618, 694, 761, 850], 55) := by decide +kernel
theorem dL_step_68 : decode cL_step 68 = .ok (.aload 4, 2) := by decide +kernel
theorem dL_step_70 : decode cL_step 70 = .ok (.iload 8, 2) := by decide +kernel
theorem dL_step_72 : decode cL_step 72 = .ok (.iload_n 3, 1) := by decide +kernel
theorem dL_step_73 : decode cL_step 73 = .ok (.sipush 1900, 3) := by decide +kernel
theorem dL_step_76 : decode cL_step 76 = .ok (.irem, 1) := by decide +kernel
theorem dL_step_77 : decode cL_step 77 = .ok (.sipush 900, 3) := by decide +kernel
theorem dL_step_80 : decode cL_step 80 = .ok (.isub, 1) := by decide +kernel
theorem dL_step_81 : decode cL_step 81 = .ok (.i2l, 1) := by decide +kernel
theorem dL_step_82 : decode cL_step 82 = .ok (.lastore, 1) := by decide +kernel
theorem dL_step_83 : decode cL_step 83 = .ok (.aload 4, 2) := by decide +kernel
theorem dL_step_85 : decode cL_step 85 = .ok (.iload 8, 2) := by decide +kernel
theorem dL_step_87 : decode cL_step 87 = .ok (.iconst 1, 1) := by decide +kernel
theorem dL_step_88 : decode cL_step 88 = .ok (.iadd, 1) := by decide +kernel
theorem dL_step_89 : decode cL_step 89 = .ok (.iload_n 2, 1) := by decide +kernel
theorem dL_step_90 : decode cL_step 90 = .ok (.iconst 3, 1) := by decide +kernel
theorem dL_step_91 : decode cL_step 91 = .ok (.idiv, 1) := by decide +kernel
theorem dL_step_92 : decode cL_step 92 = .ok (.sipush 301, 3) := by decide +kernel
theorem dL_step_95 : decode cL_step 95 = .ok (.irem, 1) := by decide +kernel
theorem dL_step_96 : decode cL_step 96 = .ok (.sipush 150, 3) := by decide +kernel
theorem dL_step_99 : decode cL_step 99 = .ok (.isub, 1) := by decide +kernel
theorem dL_step_100 : decode cL_step 100 = .ok (.i2l, 1) := by decide +kernel
theorem dL_step_101 : decode cL_step 101 = .ok (.lastore, 1) := by decide +kernel
theorem dL_step_102 : decode cL_step 102 = .ok (.aload 4, 2) := by decide +kernel
theorem dL_step_104 : decode cL_step 104 = .ok (.iload 8, 2) := by decide +kernel
theorem dL_step_106 : decode cL_step 106 = .ok (.iconst 2, 1) := by decide +kernel
theorem dL_step_107 : decode cL_step 107 = .ok (.iadd, 1) := by decide +kernel
theorem dL_step_108 : decode cL_step 108 = .ok (.iload_n 3, 1) := by decide +kernel
theorem dL_step_109 : decode cL_step 109 = .ok (.iconst 3, 1) := by decide +kernel
theorem dL_step_110 : decode cL_step 110 = .ok (.irem, 1) := by decide +kernel
theorem dL_step_111 : decode cL_step 111 = .ok (.ifCond .ne 19, 3) := by decide +kernel
theorem dL_step_114 : decode cL_step 114 = .ok (.iload_n 2, 1) := by decide +kernel
theorem dL_step_115 : decode cL_step 115 = .ok (.bipush 9, 2) := by decide +kernel
theorem dL_step_117 : decode cL_step 117 = .ok (.idiv, 1) := by decide +kernel
theorem dL_step_118 : decode cL_step 118 = .ok (.sipush 4001, 3) := by decide +kernel
theorem dL_step_121 : decode cL_step 121 = .ok (.irem, 1) := by decide +kernel
theorem dL_step_122 : decode cL_step 122 = .ok (.sipush 2000, 3) := by decide +kernel
theorem dL_step_125 : decode cL_step 125 = .ok (.isub, 1) := by decide +kernel
theorem dL_step_126 : decode cL_step 126 = .ok (.i2l, 1) := by decide +kernel
theorem dL_step_127 : decode cL_step 127 = .ok (.goto 15, 3) := by decide +kernel
theorem dL_step_130 : decode cL_step 130 = .ok (.bipush 100, 2) := by decide +kernel
theorem dL_step_132 : decode cL_step 132 = .ok (.iload_n 2, 1) := by decide +kernel
theorem dL_step_133 : decode cL_step 133 = .ok (.bipush 9, 2) := by decide +kernel
theorem dL_step_135 : decode cL_step 135 = .ok (.idiv, 1) := by decide +kernel
theorem dL_step_136 : decode cL_step 136 = .ok (.sipush 900, 3) := by decide +kernel
theorem dL_step_139 : decode cL_step 139 = .ok (.irem, 1) := by decide +kernel
theorem dL_step_140 : decode cL_step 140 = .ok (.iadd, 1) := by decide +kernel
theorem dL_step_141 : decode cL_step 141 = .ok (.i2l, 1) := by decide +kernel
theorem dL_step_142 : decode cL_step 142 = .ok (.lastore, 1) := by decide +kernel
theorem dL_step_143 : decode cL_step 143 = .ok (.aload 4, 2) := by decide +kernel
theorem dL_step_145 : decode cL_step 145 = .ok (.iload 8, 2) := by decide +kernel
theorem dL_step_147 : decode cL_step 147 = .ok (.iconst 3, 1) := by decide +kernel
theorem dL_step_148 : decode cL_step 148 = .ok (.iadd, 1) := by decide +kernel
theorem dL_step_149 : decode cL_step 149 = .ok (.iload_n 3, 1) := by decide +kernel
theorem dL_step_150 : decode cL_step 150 = .ok (.sipush 1900, 3) := by decide +kernel
theorem dL_step_153 : decode cL_step 153 = .ok (.idiv, 1) := by decide +kernel
theorem dL_step_154 : decode cL_step 154 = .ok (.bipush 11, 2) := by decide +kernel
theorem dL_step_156 : decode cL_step 156 = .ok (.irem, 1) := by decide +kernel
theorem dL_step_157 : decode cL_step 157 = .ok (.i2l, 1) := by decide +kernel
theorem dL_step_158 : decode cL_step 158 = .ok (.lastore, 1) := by decide +kernel
theorem dL_step_159 : decode cL_step 159 = .ok (.aload_n 0, 1) := by decide +kernel
theorem dL_step_160 : decode cL_step 160 = .ok (.iload 7, 2) := by decide +kernel
theorem dL_step_162 : decode cL_step 162 = .ok (.aload 4, 2) := by decide +kernel
theorem dL_step_164 : decode cL_step 164 = .ok (.iload 8, 2) := by decide +kernel
theorem dL_step_166 : decode cL_step 166 = .ok (.laload, 1) := by decide +kernel
theorem dL_step_167 : decode cL_step 167 = .ok (.l2i, 1) := by decide +kernel
theorem dL_step_168 : decode cL_step 168 = .ok (.aload 4, 2) := by decide +kernel
theorem dL_step_170 : decode cL_step 170 = .ok (.iload 8, 2) := by decide +kernel
theorem dL_step_172 : decode cL_step 172 = .ok (.iconst 1, 1) := by decide +kernel
theorem dL_step_173 : decode cL_step 173 = .ok (.iadd, 1) := by decide +kernel
theorem dL_step_174 : decode cL_step 174 = .ok (.laload, 1) := by decide +kernel
theorem dL_step_175 : decode cL_step 175 = .ok (.l2i, 1) := by decide +kernel
theorem dL_step_176 : decode cL_step 176 = .ok (.aload 4, 2) := by decide +kernel
theorem dL_step_178 : decode cL_step 178 = .ok (.iload 8, 2) := by decide +kernel
theorem dL_step_180 : decode cL_step 180 = .ok (.iconst 2, 1) := by decide +kernel
theorem dL_step_181 : decode cL_step 181 = .ok (.iadd, 1) := by decide +kernel
theorem dL_step_182 : decode cL_step 182 = .ok (.laload, 1) := by decide +kernel
theorem dL_step_183 : decode cL_step 183 = .ok (.l2i, 1) := by decide +kernel
theorem dL_step_184 : decode cL_step 184 = .ok (.aload 4, 2) := by decide +kernel
theorem dL_step_186 : decode cL_step 186 = .ok (.iload 8, 2) := by decide +kernel
theorem dL_step_188 : decode cL_step 188 = .ok (.iconst 3, 1) := by decide +kernel
theorem dL_step_189 : decode cL_step 189 = .ok (.iadd, 1) := by decide +kernel
theorem dL_step_190 : decode cL_step 190 = .ok (.laload, 1) := by decide +kernel
theorem dL_step_191 : decode cL_step 191 = .ok (.l2i, 1) := by decide +kernel
theorem dL_step_192 : decode cL_step 192 = .ok (.invokevirtual 130, 3) := by decide +kernel
theorem dL_step_195 : decode cL_step 195 = .ok (.iconst 1, 1) := by decide +kernel
theorem dL_step_196 : decode cL_step 196 = .ok (.ireturn, 1) := by decide +kernel
theorem dL_step_197 : decode cL_step 197 = .ok (.aload 4, 2) := by decide +kernel
theorem dL_step_199 : decode cL_step 199 = .ok (.iload 8, 2) := by decide +kernel
theorem dL_step_201 : decode cL_step 201 = .ok (.iconst 4, 1) := by decide +kernel
theorem dL_step_202 : decode cL_step 202 = .ok (.iadd, 1) := by decide +kernel
theorem dL_step_203 : decode cL_step 203 = .ok (.laload, 1) := by decide +kernel
theorem dL_step_204 : decode cL_step 204 = .ok (.lstore 9, 2) := by decide +kernel
theorem dL_step_206 : decode cL_step 206 = .ok (.aload 4, 2) := by decide +kernel
theorem dL_step_208 : decode cL_step 208 = .ok (.iload 8, 2) := by decide +kernel
theorem dL_step_210 : decode cL_step 210 = .ok (.iconst 4, 1) := by decide +kernel
theorem dL_step_211 : decode cL_step 211 = .ok (.iadd, 1) := by decide +kernel
theorem dL_step_212 : decode cL_step 212 = .ok (.iload_n 3, 1) := by decide +kernel
theorem dL_step_213 : decode cL_step 213 = .ok (.iconst 3, 1) := by decide +kernel
theorem dL_step_214 : decode cL_step 214 = .ok (.irem, 1) := by decide +kernel
theorem dL_step_215 : decode cL_step 215 = .ok (.ifCond .ne 16, 3) := by decide +kernel
theorem dL_step_218 : decode cL_step 218 = .ok (.iload_n 3, 1) := by decide +kernel
theorem dL_step_219 : decode cL_step 219 = .ok (.sipush 20001, 3) := by decide +kernel
theorem dL_step_222 : decode cL_step 222 = .ok (.irem, 1) := by decide +kernel
theorem dL_step_223 : decode cL_step 223 = .ok (.sipush 10000, 3) := by decide +kernel
theorem dL_step_226 : decode cL_step 226 = .ok (.isub, 1) := by decide +kernel
theorem dL_step_227 : decode cL_step 227 = .ok (.i2l, 1) := by decide +kernel
theorem dL_step_228 : decode cL_step 228 = .ok (.goto 12, 3) := by decide +kernel
theorem dL_step_231 : decode cL_step 231 = .ok (.iload_n 3, 1) := by decide +kernel
theorem dL_step_232 : decode cL_step 232 = .ok (.sipush 201, 3) := by decide +kernel
theorem dL_step_235 : decode cL_step 235 = .ok (.irem, 1) := by decide +kernel
theorem dL_step_236 : decode cL_step 236 = .ok (.bipush 100, 2) := by decide +kernel
theorem dL_step_238 : decode cL_step 238 = .ok (.isub, 1) := by decide +kernel
theorem dL_step_239 : decode cL_step 239 = .ok (.i2l, 1) := by decide +kernel
theorem dL_step_240 : decode cL_step 240 = .ok (.lastore, 1) := by decide +kernel
theorem dL_step_241 : decode cL_step 241 = .ok (.aload_n 0, 1) := by decide +kernel
theorem dL_step_242 : decode cL_step 242 = .ok (.iload 7, 2) := by decide +kernel
theorem dL_step_244 : decode cL_step 244 = .ok (.aload 4, 2) := by decide +kernel
theorem dL_step_246 : decode cL_step 246 = .ok (.iload 8, 2) := by decide +kernel
theorem dL_step_248 : decode cL_step 248 = .ok (.iconst 4, 1) := by decide +kernel
theorem dL_step_249 : decode cL_step 249 = .ok (.iadd, 1) := by decide +kernel
theorem dL_step_250 : decode cL_step 250 = .ok (.laload, 1) := by decide +kernel
theorem dL_step_251 : decode cL_step 251 = .ok (.l2i, 1) := by decide +kernel
theorem dL_step_252 : decode cL_step 252 = .ok (.invokevirtual 134, 3) := by decide +kernel
theorem dL_step_255 : decode cL_step 255 = .ok (.i2l, 1) := by decide +kernel
theorem dL_step_256 : decode cL_step 256 = .ok (.lload 9, 2) := by decide +kernel
theorem dL_step_258 : decode cL_step 258 = .ok (.lcmp, 1) := by decide +kernel
theorem dL_step_259 : decode cL_step 259 = .ok (.ifCond .ne 7, 3) := by decide +kernel
theorem dL_step_262 : decode cL_step 262 = .ok (.iconst 1, 1) := by decide +kernel
theorem dL_step_263 : decode cL_step 263 = .ok (.goto 4, 3) := by decide +kernel
