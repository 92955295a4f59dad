theorem dL_isSum_107 : decode cL_isSum 107 = .ok (.iload 4, 2) := by decide +kernel
theorem dL_isSum_109 : decode cL_isSum 109 = .ok (.iconst 1, 1) := by decide +kernel
theorem dL_isSum_110 : decode cL_isSum 110 = .ok (.invokevirtual 71, 3) := by decide +kernel
theorem dL_isSum_113 : decode cL_isSum 113 = .ok (.i2l, 1) := by decide +kernel
theorem dL_isSum_114 : decode cL_isSum 114 = .ok (.lload 5, 2) := by decide +kernel
theorem dL_isSum_116 : decode cL_isSum 116 = .ok (.lmul, 1) := by decide +kernel
theorem dL_isSum_117 : decode cL_isSum 117 = .ok (.ldc2_w 10, 3) := by decide +kernel
theorem dL_isSum_120 : decode cL_isSum 120 = .ok (.invokestatic 12, 3) := by decide +kernel
theorem dL_isSum_123 : decode cL_isSum 123 = .ok (.ladd, 1) := by decide +kernel
theorem dL_isSum_124 : decode cL_isSum 124 = .ok (.aload_n 1, 1) := by decide +kernel
theorem dL_isSum_125 : decode cL_isSum 125 = .ok (.iload 10, 2) := by decide +kernel
theorem dL_isSum_127 : decode cL_isSum 127 = .ok (.iconst 5, 1) := by decide +kernel
theorem dL_isSum_128 : decode cL_isSum 128 = .ok (.iadd, 1) := by decide +kernel
theorem dL_isSum_129 : decode cL_isSum 129 = .ok (.laload, 1) := by decide +kernel
theorem dL_isSum_130 : decode cL_isSum 130 = .ok (.aload_n 1, 1) := by decide +kernel
theorem dL_isSum_131 : decode cL_isSum 131 = .ok (.iload 10, 2) := by decide +kernel
theorem dL_isSum_133 : decode cL_isSum 133 = .ok (.bipush 6, 2) := by decide +kernel
theorem dL_isSum_135 : decode cL_isSum 135 = .ok (.iadd, 1) := by decide +kernel
theorem dL_isSum_136 : decode cL_isSum 136 = .ok (.laload, 1) := by decide +kernel
theorem dL_isSum_137 : decode cL_isSum 137 = .ok (.invokestatic 22, 3) := by decide +kernel
theorem dL_isSum_140 : decode cL_isSum 140 = .ok (.lcmp, 1) := by decide +kernel
theorem dL_isSum_141 : decode cL_isSum 141 = .ok (.ifCond .ne 7, 3) := by decide +kernel
theorem dL_isSum_144 : decode cL_isSum 144 = .ok (.iconst 1, 1) := by decide +kernel
theorem dL_isSum_145 : decode cL_isSum 145 = .ok (.goto 4, 3) := by decide +kernel
theorem dL_isSum_148 : decode cL_isSum 148 = .ok (.iconst 0, 1) := by decide +kernel
theorem dL_isSum_149 : decode cL_isSum 149 = .ok (.istore 11, 2) := by decide +kernel
theorem dL_isSum_151 : decode cL_isSum 151 = .ok (.aload_n 1, 1) := by decide +kernel
theorem dL_isSum_152 : decode cL_isSum 152 = .ok (.iload 10, 2) := by decide +kernel
theorem dL_isSum_154 : decode cL_isSum 154 = .ok (.bipush 14, 2) := by decide +kernel
theorem dL_isSum_156 : decode cL_isSum 156 = .ok (.iadd, 1) := by decide +kernel
theorem dL_isSum_157 : decode cL_isSum 157 = .ok (.lconst 1, 1) := by decide +kernel
theorem dL_isSum_158 : decode cL_isSum 158 = .ok (.lastore, 1) := by decide +kernel
theorem dL_isSum_159 : decode cL_isSum 159 = .ok (.aload_n 1, 1) := by decide +kernel
theorem dL_isSum_160 : decode cL_isSum 160 = .ok (.iload 10, 2) := by decide +kernel
theorem dL_isSum_162 : decode cL_isSum 162 = .ok (.bipush 14, 2) := by decide +kernel
theorem dL_isSum_164 : decode cL_isSum 164 = .ok (.iadd, 1) := by decide +kernel
theorem dL_isSum_165 : decode cL_isSum 165 = .ok (.iload 9, 2) := by decide +kernel
theorem dL_isSum_167 : decode cL_isSum 167 = .ok (.ifCond .eq 20, 3) := by decide +kernel
theorem dL_isSum_170 : decode cL_isSum 170 = .ok (.aload_n 3, 1) := by decide +kernel
theorem dL_isSum_171 : decode cL_isSum 171 = .ok (.iload 4, 2) := by decide +kernel
theorem dL_isSum_173 : decode cL_isSum 173 = .ok (.iaload, 1) := by decide +kernel
theorem dL_isSum_174 : decode cL_isSum 174 = .ok (.ifCond .ne 13, 3) := by decide +kernel
theorem dL_isSum_177 : decode cL_isSum 177 = .ok (.aload_n 1, 1) := by decide +kernel
theorem dL_isSum_178 : decode cL_isSum 178 = .ok (.iload 10, 2) := by decide +kernel
theorem dL_isSum_180 : decode cL_isSum 180 = .ok (.bipush 14, 2) := by decide +kernel
theorem dL_isSum_182 : decode cL_isSum 182 = .ok (.iadd, 1) := by decide +kernel
theorem dL_isSum_183 : decode cL_isSum 183 = .ok (.laload, 1) := by decide +kernel
theorem dL_isSum_184 : decode cL_isSum 184 = .ok (.goto 4, 3) := by decide +kernel
theorem dL_isSum_187 : decode cL_isSum 187 = .ok (.lconst 0, 1) := by decide +kernel
theorem dL_isSum_188 : decode cL_isSum 188 = .ok (.lastore, 1) := by decide +kernel
theorem dL_isSum_189 : decode cL_isSum 189 = .ok (.iload 11, 2) := by decide +kernel
theorem dL_isSum_191 : decode cL_isSum 191 = .ok (.ifCond .eq 31, 3) := by decide +kernel
theorem dL_isSum_194 : decode cL_isSum 194 = .ok (.aload_n 1, 1) := by decide +kernel
theorem dL_isSum_195 : decode cL_isSum 195 = .ok (.iload 10, 2) := by decide +kernel
theorem dL_isSum_197 : decode cL_isSum 197 = .ok (.bipush 14, 2) := by decide +kernel
theorem dL_isSum_199 : decode cL_isSum 199 = .ok (.iadd, 1) := by decide +kernel
theorem dL_isSum_200 : decode cL_isSum 200 = .ok (.laload, 1) := by decide +kernel
theorem dL_isSum_201 : decode cL_isSum 201 = .ok (.lconst 0, 1) := by decide +kernel
theorem dL_isSum_202 : decode cL_isSum 202 = .ok (.lcmp, 1) := by decide +kernel
theorem dL_isSum_203 : decode cL_isSum 203 = .ok (.ifCond .eq 15, 3) := by decide +kernel
theorem dL_isSum_206 : decode cL_isSum 206 = .ok (.aload_n 0, 1) := by decide +kernel
theorem dL_isSum_207 : decode cL_isSum 207 = .ok (.iload 4, 2) := by decide +kernel
theorem dL_isSum_209 : decode cL_isSum 209 = .ok (.invokevirtual 79, 3) := by decide +kernel
theorem dL_isSum_212 : decode cL_isSum 212 = .ok (.lload 7, 2) := by decide +kernel
theorem dL_isSum_214 : decode cL_isSum 214 = .ok (.lcmp, 1) := by decide +kernel
theorem dL_isSum_215 : decode cL_isSum 215 = .ok (.ifCond .ne 7, 3) := by decide +kernel
theorem dL_isSum_218 : decode cL_isSum 218 = .ok (.iconst 1, 1) := by decide +kernel
theorem dL_isSum_219 : decode cL_isSum 219 = .ok (.goto 4, 3) := by decide +kernel
theorem dL_isSum_222 : decode cL_isSum 222 = .ok (.iconst 0, 1) := by decide +kernel
theorem dL_isSum_223 : decode cL_isSum 223 = .ok (.ireturn, 1) := by decide +kernel
theorem dL_isRelay_0 : decode cL_isRelay 0 = .ok (.bipush 20, 2) := by decide +kernel
theorem dL_isRelay_2 : decode cL_isRelay 2 = .ok (.iload_n 2, 1) := by decide +kernel
theorem dL_isRelay_3 : decode cL_isRelay 3 = .ok (.imul, 1) := by decide +kernel
theorem dL_isRelay_4 : decode cL_isRelay 4 = .ok (.istore 10, 2) := by decide +kernel
theorem dL_isRelay_6 : decode cL_isRelay 6 = .ok (.lload 7, 2) := by decide +kernel
theorem dL_isRelay_8 : decode cL_isRelay 8 = .ok (.lload 5, 2) := by decide +kernel
theorem dL_isRelay_10 : decode cL_isRelay 10 = .ok (.lsub, 1) := by decide +kernel
theorem dL_isRelay_11 : decode cL_isRelay 11 = .ok (.lstore 11, 2) := by decide +kernel
theorem dL_isRelay_13 : decode cL_isRelay 13 = .ok (.aload_n 1, 1) := by decide +kernel
theorem dL_isRelay_14 : decode cL_isRelay 14 = .ok (.iload 10, 2) := by decide +kernel
theorem dL_isRelay_16 : decode cL_isRelay 16 = .ok (.bipush 13, 2) := by decide +kernel
theorem dL_isRelay_18 : decode cL_isRelay 18 = .ok (.iadd, 1) := by decide +kernel
theorem dL_isRelay_19 : decode cL_isRelay 19 = .ok (.laload, 1) := by decide +kernel
theorem dL_isRelay_20 : decode cL_isRelay 20 = .ok (.aload_n 1, 1) := by decide +kernel
theorem dL_isRelay_21 : decode cL_isRelay 21 = .ok (.iload 10, 2) := by decide +kernel
theorem dL_isRelay_23 : decode cL_isRelay 23 = .ok (.bipush 11, 2) := by decide +kernel
theorem dL_isRelay_25 : decode cL_isRelay 25 = .ok (.iadd, 1) := by decide +kernel
theorem dL_isRelay_26 : decode cL_isRelay 26 = .ok (.laload, 1) := by decide +kernel
theorem dL_isRelay_27 : decode cL_isRelay 27 = .ok (.ladd, 1) := by decide +kernel
theorem dL_isRelay_28 : decode cL_isRelay 28 = .ok (.aload_n 1, 1) := by decide +kernel
theorem dL_isRelay_29 : decode cL_isRelay 29 = .ok (.iload 10, 2) := by decide +kernel
theorem dL_isRelay_31 : decode cL_isRelay 31 = .ok (.iconst 5, 1) := by decide +kernel
theorem dL_isRelay_32 : decode cL_isRelay 32 = .ok (.iadd, 1) := by decide +kernel
theorem dL_isRelay_33 : decode cL_isRelay 33 = .ok (.laload, 1) := by decide +kernel
theorem dL_isRelay_34 : decode cL_isRelay 34 = .ok (.aload_n 1, 1) := by decide +kernel
theorem dL_isRelay_35 : decode cL_isRelay 35 = .ok (.iload 10, 2) := by decide +kernel
theorem dL_isRelay_37 : decode cL_isRelay 37 = .ok (.bipush 6, 2) := by decide +kernel
theorem dL_isRelay_39 : decode cL_isRelay 39 = .ok (.iadd, 1) := by decide +kernel
theorem dL_isRelay_40 : decode cL_isRelay 40 = .ok (.laload, 1) := by decide +kernel
theorem dL_isRelay_41 : decode cL_isRelay 41 = .ok (.invokestatic 22, 3) := by decide +kernel
theorem dL_isRelay_44 : decode cL_isRelay 44 = .ok (.lstore 13, 2) := by decide +kernel
theorem dL_isRelay_46 : decode cL_isRelay 46 = .ok (.aload_n 1, 1) := by decide +kernel
theorem dL_isRelay_47 : decode cL_isRelay 47 = .ok (.iload 10, 2) := by decide +kernel
theorem dL_isRelay_49 : decode cL_isRelay 49 = .ok (.bipush 13, 2) := by decide +kernel
theorem dL_isRelay_51 : decode cL_isRelay 51 = .ok (.iadd, 1) := by decide +kernel
theorem dL_isRelay_52 : decode cL_isRelay 52 = .ok (.laload, 1) := by decide +kernel
theorem dL_isRelay_53 : decode cL_isRelay 53 = .ok (.aload_n 1, 1) := by decide +kernel
theorem dL_isRelay_54 : decode cL_isRelay 54 = .ok (.iload 10, 2) := by decide +kernel
theorem dL_isRelay_56 : decode cL_isRelay 56 = .ok (.bipush 11, 2) := by decide +kernel
theorem dL_isRelay_58 : decode cL_isRelay 58 = .ok (.iadd, 1) := by decide +kernel
theorem dL_isRelay_59 : decode cL_isRelay 59 = .ok (.laload, 1) := by decide +kernel
theorem dL_isRelay_60 : decode cL_isRelay 60 = .ok (.lsub, 1) := by decide +kernel
theorem dL_isRelay_61 : decode cL_isRelay 61 = .ok (.aload_n 1, 1) := by decide +kernel
theorem dL_isRelay_62 : decode cL_isRelay 62 = .ok (.iload 10, 2) := by decide +kernel
theorem dL_isRelay_64 : decode cL_isRelay 64 = .ok (.iconst 5, 1) := by decide +kernel
theorem dL_isRelay_65 : decode cL_isRelay 65 = .ok (.iadd, 1) := by decide +kernel
theorem dL_isRelay_66 : decode cL_isRelay 66 = .ok (.laload, 1) := by decide +kernel
theorem dL_isRelay_67 : decode cL_isRelay 67 = .ok (.aload_n 1, 1) := by decide +kernel
theorem dL_isRelay_68 : decode cL_isRelay 68 = .ok (.iload 10, 2) := by decide +kernel
theorem dL_isRelay_70 : decode cL_isRelay 70 = .ok (.bipush 6, 2) := by decide +kernel
theorem dL_isRelay_72 : decode cL_isRelay 72 = .ok (.iadd, 1) := by decide +kernel
theorem dL_isRelay_73 : decode cL_isRelay 73 = .ok (.laload, 1) := by decide +kernel
theorem dL_isRelay_74 : decode cL_isRelay 74 = .ok (.invokestatic 22, 3) := by decide +kernel
theorem dL_isRelay_77 : decode cL_isRelay 77 = .ok (.lstore 15, 2) := by decide +kernel
theorem dL_isRelay_79 : decode cL_isRelay 79 = .ok (.lload_n 3, 1) := by decide +kernel
theorem dL_isRelay_80 : decode cL_isRelay 80 = .ok (.lload 13, 2) := by decide +kernel
theorem dL_isRelay_82 : decode cL_isRelay 82 = .ok (.lcmp, 1) := by decide +kernel
theorem dL_isRelay_83 : decode cL_isRelay 83 = .ok (.ifCond .eq 10, 3) := by decide +kernel
theorem dL_isRelay_86 : decode cL_isRelay 86 = .ok (.lload_n 3, 1) := by decide +kernel
theorem dL_isRelay_87 : decode cL_isRelay 87 = .ok (.lload 15, 2) := by decide +kernel
