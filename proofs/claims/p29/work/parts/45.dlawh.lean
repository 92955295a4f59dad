theorem dL_isRelay_302 : decode cL_isRelay 302 = .ok (.bipush 11, 2) := by decide +kernel
theorem dL_isRelay_304 : decode cL_isRelay 304 = .ok (.iadd, 1) := by decide +kernel
theorem dL_isRelay_305 : decode cL_isRelay 305 = .ok (.laload, 1) := by decide +kernel
theorem dL_isRelay_306 : decode cL_isRelay 306 = .ok (.l2i, 1) := by decide +kernel
theorem dL_isRelay_307 : decode cL_isRelay 307 = .ok (.invokestatic 85, 3) := by decide +kernel
theorem dL_isRelay_310 : decode cL_isRelay 310 = .ok (.ifCond .eq 7, 3) := by decide +kernel
theorem dL_isRelay_313 : decode cL_isRelay 313 = .ok (.iconst 1, 1) := by decide +kernel
theorem dL_isRelay_314 : decode cL_isRelay 314 = .ok (.goto 4, 3) := by decide +kernel
theorem dL_isRelay_317 : decode cL_isRelay 317 = .ok (.iconst 0, 1) := by decide +kernel
theorem dL_isRelay_318 : decode cL_isRelay 318 = .ok (.ireturn, 1) := by decide +kernel
theorem dL_isTold_0 : decode cL_isTold 0 = .ok (.aload_n 0, 1) := by decide +kernel
theorem dL_isTold_1 : decode cL_isTold 1 = .ok (.iload_n 1, 1) := by decide +kernel
theorem dL_isTold_2 : decode cL_isTold 2 = .ok (.invokevirtual 89, 3) := by decide +kernel
theorem dL_isTold_5 : decode cL_isTold 5 = .ok (.lstore_n 3, 1) := by decide +kernel
theorem dL_isTold_6 : decode cL_isTold 6 = .ok (.aload_n 0, 1) := by decide +kernel
theorem dL_isTold_7 : decode cL_isTold 7 = .ok (.iload_n 1, 1) := by decide +kernel
theorem dL_isTold_8 : decode cL_isTold 8 = .ok (.invokevirtual 92, 3) := by decide +kernel
theorem dL_isTold_11 : decode cL_isTold 11 = .ok (.istore 5, 2) := by decide +kernel
theorem dL_isTold_13 : decode cL_isTold 13 = .ok (.lload_n 3, 1) := by decide +kernel
theorem dL_isTold_14 : decode cL_isTold 14 = .ok (.lconst 0, 1) := by decide +kernel
theorem dL_isTold_15 : decode cL_isTold 15 = .ok (.lcmp, 1) := by decide +kernel
theorem dL_isTold_16 : decode cL_isTold 16 = .ok (.ifCond .lt 17, 3) := by decide +kernel
theorem dL_isTold_19 : decode cL_isTold 19 = .ok (.iload 5, 2) := by decide +kernel
theorem dL_isTold_21 : decode cL_isTold 21 = .ok (.iconst 2, 1) := by decide +kernel
theorem dL_isTold_22 : decode cL_isTold 22 = .ok (.if_icmp .lt 11, 3) := by decide +kernel
theorem dL_isTold_25 : decode cL_isTold 25 = .ok (.iload 5, 2) := by decide +kernel
theorem dL_isTold_27 : decode cL_isTold 27 = .ok (.sipush 200, 3) := by decide +kernel
theorem dL_isTold_30 : decode cL_isTold 30 = .ok (.if_icmp .le 5, 3) := by decide +kernel
theorem dL_isTold_33 : decode cL_isTold 33 = .ok (.iconst 0, 1) := by decide +kernel
theorem dL_isTold_34 : decode cL_isTold 34 = .ok (.ireturn, 1) := by decide +kernel
theorem dL_isTold_35 : decode cL_isTold 35 = .ok (.lload_n 3, 1) := by decide +kernel
theorem dL_isTold_36 : decode cL_isTold 36 = .ok (.lconst 0, 1) := by decide +kernel
theorem dL_isTold_37 : decode cL_isTold 37 = .ok (.lcmp, 1) := by decide +kernel
theorem dL_isTold_38 : decode cL_isTold 38 = .ok (.ifCond .ne 5, 3) := by decide +kernel
theorem dL_isTold_41 : decode cL_isTold 41 = .ok (.iconst 1, 1) := by decide +kernel
theorem dL_isTold_42 : decode cL_isTold 42 = .ok (.ireturn, 1) := by decide +kernel
theorem dL_isTold_43 : decode cL_isTold 43 = .ok (.aload_n 0, 1) := by decide +kernel
theorem dL_isTold_44 : decode cL_isTold 44 = .ok (.iload_n 1, 1) := by decide +kernel
theorem dL_isTold_45 : decode cL_isTold 45 = .ok (.invokevirtual 95, 3) := by decide +kernel
theorem dL_isTold_48 : decode cL_isTold 48 = .ok (.i2l, 1) := by decide +kernel
theorem dL_isTold_49 : decode cL_isTold 49 = .ok (.lstore 6, 2) := by decide +kernel
theorem dL_isTold_51 : decode cL_isTold 51 = .ok (.lload 6, 2) := by decide +kernel
theorem dL_isTold_53 : decode cL_isTold 53 = .ok (.ldc2_w 98, 3) := by decide +kernel
theorem dL_isTold_56 : decode cL_isTold 56 = .ok (.iload_n 2, 1) := by decide +kernel
theorem dL_isTold_57 : decode cL_isTold 57 = .ok (.i2l, 1) := by decide +kernel
theorem dL_isTold_58 : decode cL_isTold 58 = .ok (.lmul, 1) := by decide +kernel
theorem dL_isTold_59 : decode cL_isTold 59 = .ok (.ldc2_w 100, 3) := by decide +kernel
theorem dL_isTold_62 : decode cL_isTold 62 = .ok (.lload_n 3, 1) := by decide +kernel
theorem dL_isTold_63 : decode cL_isTold 63 = .ok (.lmul, 1) := by decide +kernel
theorem dL_isTold_64 : decode cL_isTold 64 = .ok (.ldiv, 1) := by decide +kernel
theorem dL_isTold_65 : decode cL_isTold 65 = .ok (.lcmp, 1) := by decide +kernel
theorem dL_isTold_66 : decode cL_isTold 66 = .ok (.ifCond .ne 7, 3) := by decide +kernel
theorem dL_isTold_69 : decode cL_isTold 69 = .ok (.iconst 1, 1) := by decide +kernel
theorem dL_isTold_70 : decode cL_isTold 70 = .ok (.goto 4, 3) := by decide +kernel
theorem dL_isTold_73 : decode cL_isTold 73 = .ok (.iconst 0, 1) := by decide +kernel
theorem dL_isTold_74 : decode cL_isTold 74 = .ok (.istore 8, 2) := by decide +kernel
theorem dL_isTold_76 : decode cL_isTold 76 = .ok (.ldc2_w 102, 3) := by decide +kernel
theorem dL_isTold_79 : decode cL_isTold 79 = .ok (.lload 6, 2) := by decide +kernel
theorem dL_isTold_81 : decode cL_isTold 81 = .ok (.lmul, 1) := by decide +kernel
theorem dL_isTold_82 : decode cL_isTold 82 = .ok (.ldc2_w 104, 3) := by decide +kernel
theorem dL_isTold_85 : decode cL_isTold 85 = .ok (.ldiv, 1) := by decide +kernel
theorem dL_isTold_86 : decode cL_isTold 86 = .ok (.lstore 9, 2) := by decide +kernel
theorem dL_isTold_88 : decode cL_isTold 88 = .ok (.ldc2_w 106, 3) := by decide +kernel
theorem dL_isTold_91 : decode cL_isTold 91 = .ok (.lload 6, 2) := by decide +kernel
theorem dL_isTold_93 : decode cL_isTold 93 = .ok (.lmul, 1) := by decide +kernel
theorem dL_isTold_94 : decode cL_isTold 94 = .ok (.ldc2_w 108, 3) := by decide +kernel
theorem dL_isTold_97 : decode cL_isTold 97 = .ok (.iload 5, 2) := by decide +kernel
theorem dL_isTold_99 : decode cL_isTold 99 = .ok (.i2l, 1) := by decide +kernel
theorem dL_isTold_100 : decode cL_isTold 100 = .ok (.lmul, 1) := by decide +kernel
theorem dL_isTold_101 : decode cL_isTold 101 = .ok (.ldiv, 1) := by decide +kernel
theorem dL_isTold_102 : decode cL_isTold 102 = .ok (.lstore 11, 2) := by decide +kernel
theorem dL_isTold_104 : decode cL_isTold 104 = .ok (.iload 8, 2) := by decide +kernel
theorem dL_isTold_106 : decode cL_isTold 106 = .ok (.ifCond .eq 87, 3) := by decide +kernel
theorem dL_isTold_109 : decode cL_isTold 109 = .ok (.aload_n 0, 1) := by decide +kernel
theorem dL_isTold_110 : decode cL_isTold 110 = .ok (.iload_n 1, 1) := by decide +kernel
theorem dL_isTold_111 : decode cL_isTold 111 = .ok (.iconst 0, 1) := by decide +kernel
theorem dL_isTold_112 : decode cL_isTold 112 = .ok (.iconst 0, 1) := by decide +kernel
theorem dL_isTold_113 : decode cL_isTold 113 = .ok (.invokevirtual 110, 3) := by decide +kernel
theorem dL_isTold_116 : decode cL_isTold 116 = .ok (.i2l, 1) := by decide +kernel
theorem dL_isTold_117 : decode cL_isTold 117 = .ok (.lload 9, 2) := by decide +kernel
theorem dL_isTold_119 : decode cL_isTold 119 = .ok (.ldc2_w 114, 3) := by decide +kernel
theorem dL_isTold_122 : decode cL_isTold 122 = .ok (.lcmp, 1) := by decide +kernel
theorem dL_isTold_123 : decode cL_isTold 123 = .ok (.ifCond .ge 8, 3) := by decide +kernel
theorem dL_isTold_126 : decode cL_isTold 126 = .ok (.lload 9, 2) := by decide +kernel
theorem dL_isTold_128 : decode cL_isTold 128 = .ok (.goto 6, 3) := by decide +kernel
theorem dL_isTold_131 : decode cL_isTold 131 = .ok (.ldc2_w 114, 3) := by decide +kernel
theorem dL_isTold_134 : decode cL_isTold 134 = .ok (.lcmp, 1) := by decide +kernel
theorem dL_isTold_135 : decode cL_isTold 135 = .ok (.ifCond .ne 58, 3) := by decide +kernel
theorem dL_isTold_138 : decode cL_isTold 138 = .ok (.aload_n 0, 1) := by decide +kernel
theorem dL_isTold_139 : decode cL_isTold 139 = .ok (.iload_n 1, 1) := by decide +kernel
theorem dL_isTold_140 : decode cL_isTold 140 = .ok (.iconst 1, 1) := by decide +kernel
theorem dL_isTold_141 : decode cL_isTold 141 = .ok (.iconst 1, 1) := by decide +kernel
theorem dL_isTold_142 : decode cL_isTold 142 = .ok (.invokevirtual 110, 3) := by decide +kernel
theorem dL_isTold_145 : decode cL_isTold 145 = .ok (.i2l, 1) := by decide +kernel
theorem dL_isTold_146 : decode cL_isTold 146 = .ok (.lload 11, 2) := by decide +kernel
theorem dL_isTold_148 : decode cL_isTold 148 = .ok (.ldc2_w 116, 3) := by decide +kernel
theorem dL_isTold_151 : decode cL_isTold 151 = .ok (.lcmp, 1) := by decide +kernel
theorem dL_isTold_152 : decode cL_isTold 152 = .ok (.ifCond .ge 8, 3) := by decide +kernel
theorem dL_isTold_155 : decode cL_isTold 155 = .ok (.lload 11, 2) := by decide +kernel
theorem dL_isTold_157 : decode cL_isTold 157 = .ok (.goto 6, 3) := by decide +kernel
theorem dL_isTold_160 : decode cL_isTold 160 = .ok (.ldc2_w 116, 3) := by decide +kernel
theorem dL_isTold_163 : decode cL_isTold 163 = .ok (.lcmp, 1) := by decide +kernel
theorem dL_isTold_164 : decode cL_isTold 164 = .ok (.ifCond .ne 29, 3) := by decide +kernel
theorem dL_isTold_167 : decode cL_isTold 167 = .ok (.aload_n 0, 1) := by decide +kernel
theorem dL_isTold_168 : decode cL_isTold 168 = .ok (.iload_n 1, 1) := by decide +kernel
theorem dL_isTold_169 : decode cL_isTold 169 = .ok (.iconst 0, 1) := by decide +kernel
theorem dL_isTold_170 : decode cL_isTold 170 = .ok (.iconst 2, 1) := by decide +kernel
theorem dL_isTold_171 : decode cL_isTold 171 = .ok (.invokevirtual 110, 3) := by decide +kernel
theorem dL_isTold_174 : decode cL_isTold 174 = .ok (.ifCond .lt 19, 3) := by decide +kernel
theorem dL_isTold_177 : decode cL_isTold 177 = .ok (.aload_n 0, 1) := by decide +kernel
theorem dL_isTold_178 : decode cL_isTold 178 = .ok (.iload_n 1, 1) := by decide +kernel
theorem dL_isTold_179 : decode cL_isTold 179 = .ok (.iconst 0, 1) := by decide +kernel
theorem dL_isTold_180 : decode cL_isTold 180 = .ok (.iconst 2, 1) := by decide +kernel
theorem dL_isTold_181 : decode cL_isTold 181 = .ok (.invokevirtual 110, 3) := by decide +kernel
theorem dL_isTold_184 : decode cL_isTold 184 = .ok (.ldc 118, 2) := by decide +kernel
theorem dL_isTold_186 : decode cL_isTold 186 = .ok (.if_icmp .gt 7, 3) := by decide +kernel
theorem dL_isTold_189 : decode cL_isTold 189 = .ok (.iconst 1, 1) := by decide +kernel
theorem dL_isTold_190 : decode cL_isTold 190 = .ok (.goto 4, 3) := by decide +kernel
theorem dL_isTold_193 : decode cL_isTold 193 = .ok (.iconst 0, 1) := by decide +kernel
theorem dL_isTold_194 : decode cL_isTold 194 = .ok (.ireturn, 1) := by decide +kernel
theorem dL_isSettled_0 : decode cL_isSettled 0 = .ok (.aload_n 0, 1) := by decide +kernel
theorem dL_isSettled_1 : decode cL_isSettled 1 = .ok (.iload_n 2, 1) := by decide +kernel
theorem dL_isSettled_2 : decode cL_isSettled 2 = .ok (.invokevirtual 46, 3) := by decide +kernel
theorem dL_isSettled_5 : decode cL_isSettled 5 = .ok (.aload_n 0, 1) := by decide +kernel
theorem dL_isSettled_6 : decode cL_isSettled 6 = .ok (.iload_n 2, 1) := by decide +kernel
theorem dL_isSettled_7 : decode cL_isSettled 7 = .ok (.invokevirtual 42, 3) := by decide +kernel
theorem dL_isSettled_10 : decode cL_isSettled 10 = .ok (.lsub, 1) := by decide +kernel
theorem dL_isSettled_11 : decode cL_isSettled 11 = .ok (.lstore_n 3, 1) := by decide +kernel
theorem dL_isSettled_12 : decode cL_isSettled 12 = .ok (.aload_n 1, 1) := by decide +kernel
theorem dL_isSettled_13 : decode cL_isSettled 13 = .ok (.bipush 20, 2) := by decide +kernel
