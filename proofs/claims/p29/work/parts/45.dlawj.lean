theorem dL_modes_159 : decode cL_modes 159 = .ok (.iload_n 3, 1) := by decide +kernel
theorem dL_modes_160 : decode cL_modes 160 = .ok (.invokevirtual 52, 3) := by decide +kernel
theorem dL_modes_163 : decode cL_modes 163 = .ok (.lastore, 1) := by decide +kernel
theorem dL_modes_164 : decode cL_modes 164 = .ok (.aload_n 1, 1) := by decide +kernel
theorem dL_modes_165 : decode cL_modes 165 = .ok (.iload 6, 2) := by decide +kernel
theorem dL_modes_167 : decode cL_modes 167 = .ok (.bipush 15, 2) := by decide +kernel
theorem dL_modes_169 : decode cL_modes 169 = .ok (.iadd, 1) := by decide +kernel
theorem dL_modes_170 : decode cL_modes 170 = .ok (.lconst 0, 1) := by decide +kernel
theorem dL_modes_171 : decode cL_modes 171 = .ok (.lastore, 1) := by decide +kernel
theorem dL_modes_172 : decode cL_modes 172 = .ok (.iload 7, 2) := by decide +kernel
theorem dL_modes_174 : decode cL_modes 174 = .ok (.ifCond .eq 21, 3) := by decide +kernel
theorem dL_modes_177 : decode cL_modes 177 = .ok (.iload 5, 2) := by decide +kernel
theorem dL_modes_179 : decode cL_modes 179 = .ok (.iconst 3, 1) := by decide +kernel
theorem dL_modes_180 : decode cL_modes 180 = .ok (.if_icmp .ne 11, 3) := by decide +kernel
theorem dL_modes_183 : decode cL_modes 183 = .ok (.aload_n 0, 1) := by decide +kernel
theorem dL_modes_184 : decode cL_modes 184 = .ok (.iload_n 3, 1) := by decide +kernel
theorem dL_modes_185 : decode cL_modes 185 = .ok (.invokevirtual 39, 3) := by decide +kernel
theorem dL_modes_188 : decode cL_modes 188 = .ok (.ifCond .ne 7, 3) := by decide +kernel
theorem dL_modes_191 : decode cL_modes 191 = .ok (.iconst 1, 1) := by decide +kernel
theorem dL_modes_192 : decode cL_modes 192 = .ok (.goto 4, 3) := by decide +kernel
theorem dL_modes_195 : decode cL_modes 195 = .ok (.iconst 0, 1) := by decide +kernel
theorem dL_modes_196 : decode cL_modes 196 = .ok (.istore 7, 2) := by decide +kernel
theorem dL_modes_198 : decode cL_modes 198 = .ok (.iload 7, 2) := by decide +kernel
theorem dL_modes_200 : decode cL_modes 200 = .ok (.ireturn, 1) := by decide +kernel
theorem dL_gains_0 : decode cL_gains 0 = .ok (.aload_n 0, 1) := by decide +kernel
theorem dL_gains_1 : decode cL_gains 1 = .ok (.iload_n 3, 1) := by decide +kernel
theorem dL_gains_2 : decode cL_gains 2 = .ok (.invokevirtual 30, 3) := by decide +kernel
theorem dL_gains_5 : decode cL_gains 5 = .ok (.iconst 3, 1) := by decide +kernel
theorem dL_gains_6 : decode cL_gains 6 = .ok (.if_icmp .ne 5, 3) := by decide +kernel
theorem dL_gains_9 : decode cL_gains 9 = .ok (.iconst 1, 1) := by decide +kernel
theorem dL_gains_10 : decode cL_gains 10 = .ok (.ireturn, 1) := by decide +kernel
theorem dL_gains_11 : decode cL_gains 11 = .ok (.aload_n 0, 1) := by decide +kernel
theorem dL_gains_12 : decode cL_gains 12 = .ok (.iload_n 3, 1) := by decide +kernel
theorem dL_gains_13 : decode cL_gains 13 = .ok (.invokevirtual 46, 3) := by decide +kernel
theorem dL_gains_16 : decode cL_gains 16 = .ok (.aload_n 0, 1) := by decide +kernel
theorem dL_gains_17 : decode cL_gains 17 = .ok (.iload_n 3, 1) := by decide +kernel
theorem dL_gains_18 : decode cL_gains 18 = .ok (.invokevirtual 42, 3) := by decide +kernel
theorem dL_gains_21 : decode cL_gains 21 = .ok (.lsub, 1) := by decide +kernel
theorem dL_gains_22 : decode cL_gains 22 = .ok (.lstore 7, 2) := by decide +kernel
theorem dL_gains_24 : decode cL_gains 24 = .ok (.aload_n 1, 1) := by decide +kernel
theorem dL_gains_25 : decode cL_gains 25 = .ok (.bipush 20, 2) := by decide +kernel
theorem dL_gains_27 : decode cL_gains 27 = .ok (.iload_n 3, 1) := by decide +kernel
theorem dL_gains_28 : decode cL_gains 28 = .ok (.imul, 1) := by decide +kernel
theorem dL_gains_29 : decode cL_gains 29 = .ok (.bipush 10, 2) := by decide +kernel
theorem dL_gains_31 : decode cL_gains 31 = .ok (.iadd, 1) := by decide +kernel
theorem dL_gains_32 : decode cL_gains 32 = .ok (.laload, 1) := by decide +kernel
theorem dL_gains_33 : decode cL_gains 33 = .ok (.aload_n 0, 1) := by decide +kernel
theorem dL_gains_34 : decode cL_gains 34 = .ok (.iload_n 3, 1) := by decide +kernel
theorem dL_gains_35 : decode cL_gains 35 = .ok (.invokevirtual 42, 3) := by decide +kernel
theorem dL_gains_38 : decode cL_gains 38 = .ok (.lsub, 1) := by decide +kernel
theorem dL_gains_39 : decode cL_gains 39 = .ok (.lstore 9, 2) := by decide +kernel
theorem dL_gains_41 : decode cL_gains 41 = .ok (.aload_n 0, 1) := by decide +kernel
theorem dL_gains_42 : decode cL_gains 42 = .ok (.iload_n 3, 1) := by decide +kernel
theorem dL_gains_43 : decode cL_gains 43 = .ok (.invokevirtual 82, 3) := by decide +kernel
theorem dL_gains_46 : decode cL_gains 46 = .ok (.aload_n 0, 1) := by decide +kernel
theorem dL_gains_47 : decode cL_gains 47 = .ok (.iload_n 3, 1) := by decide +kernel
theorem dL_gains_48 : decode cL_gains 48 = .ok (.iconst 0, 1) := by decide +kernel
theorem dL_gains_49 : decode cL_gains 49 = .ok (.invokevirtual 71, 3) := by decide +kernel
theorem dL_gains_52 : decode cL_gains 52 = .ok (.i2l, 1) := by decide +kernel
theorem dL_gains_53 : decode cL_gains 53 = .ok (.lload 7, 2) := by decide +kernel
theorem dL_gains_55 : decode cL_gains 55 = .ok (.lmul, 1) := by decide +kernel
theorem dL_gains_56 : decode cL_gains 56 = .ok (.ladd, 1) := by decide +kernel
theorem dL_gains_57 : decode cL_gains 57 = .ok (.aload_n 0, 1) := by decide +kernel
theorem dL_gains_58 : decode cL_gains 58 = .ok (.iload_n 3, 1) := by decide +kernel
theorem dL_gains_59 : decode cL_gains 59 = .ok (.iconst 2, 1) := by decide +kernel
theorem dL_gains_60 : decode cL_gains 60 = .ok (.invokevirtual 71, 3) := by decide +kernel
theorem dL_gains_63 : decode cL_gains 63 = .ok (.i2l, 1) := by decide +kernel
theorem dL_gains_64 : decode cL_gains 64 = .ok (.lload 9, 2) := by decide +kernel
theorem dL_gains_66 : decode cL_gains 66 = .ok (.lmul, 1) := by decide +kernel
theorem dL_gains_67 : decode cL_gains 67 = .ok (.ladd, 1) := by decide +kernel
theorem dL_gains_68 : decode cL_gains 68 = .ok (.lstore 11, 2) := by decide +kernel
theorem dL_gains_70 : decode cL_gains 70 = .ok (.aload_n 2, 1) := by decide +kernel
theorem dL_gains_71 : decode cL_gains 71 = .ok (.iload_n 3, 1) := by decide +kernel
theorem dL_gains_72 : decode cL_gains 72 = .ok (.iaload, 1) := by decide +kernel
theorem dL_gains_73 : decode cL_gains 73 = .ok (.istore 13, 2) := by decide +kernel
theorem dL_gains_75 : decode cL_gains 75 = .ok (.aload_n 2, 1) := by decide +kernel
theorem dL_gains_76 : decode cL_gains 76 = .ok (.iload_n 3, 1) := by decide +kernel
theorem dL_gains_77 : decode cL_gains 77 = .ok (.iconst 0, 1) := by decide +kernel
theorem dL_gains_78 : decode cL_gains 78 = .ok (.iastore, 1) := by decide +kernel
theorem dL_gains_79 : decode cL_gains 79 = .ok (.aload_n 1, 1) := by decide +kernel
theorem dL_gains_80 : decode cL_gains 80 = .ok (.bipush 20, 2) := by decide +kernel
theorem dL_gains_82 : decode cL_gains 82 = .ok (.iload_n 3, 1) := by decide +kernel
theorem dL_gains_83 : decode cL_gains 83 = .ok (.imul, 1) := by decide +kernel
theorem dL_gains_84 : decode cL_gains 84 = .ok (.bipush 14, 2) := by decide +kernel
theorem dL_gains_86 : decode cL_gains 86 = .ok (.iadd, 1) := by decide +kernel
theorem dL_gains_87 : decode cL_gains 87 = .ok (.lconst 0, 1) := by decide +kernel
theorem dL_gains_88 : decode cL_gains 88 = .ok (.lastore, 1) := by decide +kernel
theorem dL_gains_89 : decode cL_gains 89 = .ok (.aload_n 0, 1) := by decide +kernel
theorem dL_gains_90 : decode cL_gains 90 = .ok (.iload_n 3, 1) := by decide +kernel
theorem dL_gains_91 : decode cL_gains 91 = .ok (.iload 4, 2) := by decide +kernel
theorem dL_gains_93 : decode cL_gains 93 = .ok (.iload 5, 2) := by decide +kernel
theorem dL_gains_95 : decode cL_gains 95 = .ok (.iload 6, 2) := by decide +kernel
theorem dL_gains_97 : decode cL_gains 97 = .ok (.invokevirtual 126, 3) := by decide +kernel
theorem dL_gains_100 : decode cL_gains 100 = .ok (.iload 13, 2) := by decide +kernel
theorem dL_gains_102 : decode cL_gains 102 = .ok (.if_icmp .ne 43, 3) := by decide +kernel
theorem dL_gains_105 : decode cL_gains 105 = .ok (.aload_n 0, 1) := by decide +kernel
theorem dL_gains_106 : decode cL_gains 106 = .ok (.iload_n 3, 1) := by decide +kernel
theorem dL_gains_107 : decode cL_gains 107 = .ok (.iconst 1, 1) := by decide +kernel
theorem dL_gains_108 : decode cL_gains 108 = .ok (.invokevirtual 71, 3) := by decide +kernel
theorem dL_gains_111 : decode cL_gains 111 = .ok (.iload 5, 2) := by decide +kernel
theorem dL_gains_113 : decode cL_gains 113 = .ok (.if_icmp .ne 32, 3) := by decide +kernel
theorem dL_gains_116 : decode cL_gains 116 = .ok (.aload_n 0, 1) := by decide +kernel
theorem dL_gains_117 : decode cL_gains 117 = .ok (.iload_n 3, 1) := by decide +kernel
theorem dL_gains_118 : decode cL_gains 118 = .ok (.invokevirtual 82, 3) := by decide +kernel
theorem dL_gains_121 : decode cL_gains 121 = .ok (.iload 4, 2) := by decide +kernel
theorem dL_gains_123 : decode cL_gains 123 = .ok (.i2l, 1) := by decide +kernel
theorem dL_gains_124 : decode cL_gains 124 = .ok (.lload 7, 2) := by decide +kernel
theorem dL_gains_126 : decode cL_gains 126 = .ok (.lmul, 1) := by decide +kernel
theorem dL_gains_127 : decode cL_gains 127 = .ok (.ladd, 1) := by decide +kernel
theorem dL_gains_128 : decode cL_gains 128 = .ok (.iload 6, 2) := by decide +kernel
theorem dL_gains_130 : decode cL_gains 130 = .ok (.i2l, 1) := by decide +kernel
theorem dL_gains_131 : decode cL_gains 131 = .ok (.lload 9, 2) := by decide +kernel
theorem dL_gains_133 : decode cL_gains 133 = .ok (.lmul, 1) := by decide +kernel
theorem dL_gains_134 : decode cL_gains 134 = .ok (.ladd, 1) := by decide +kernel
theorem dL_gains_135 : decode cL_gains 135 = .ok (.lload 11, 2) := by decide +kernel
theorem dL_gains_137 : decode cL_gains 137 = .ok (.lcmp, 1) := by decide +kernel
theorem dL_gains_138 : decode cL_gains 138 = .ok (.ifCond .ne 7, 3) := by decide +kernel
theorem dL_gains_141 : decode cL_gains 141 = .ok (.iconst 1, 1) := by decide +kernel
theorem dL_gains_142 : decode cL_gains 142 = .ok (.goto 4, 3) := by decide +kernel
theorem dL_gains_145 : decode cL_gains 145 = .ok (.iconst 0, 1) := by decide +kernel
theorem dL_gains_146 : decode cL_gains 146 = .ok (.ireturn, 1) := by decide +kernel
theorem dL_step_0 : decode cL_step 0 = .ok (.iload_n 2, 1) := by decide +kernel
theorem dL_step_1 : decode cL_step 1 = .ok (.iconst 3, 1) := by decide +kernel
theorem dL_step_2 : decode cL_step 2 = .ok (.irem, 1) := by decide +kernel
theorem dL_step_3 : decode cL_step 3 = .ok (.istore 7, 2) := by decide +kernel
theorem dL_step_5 : decode cL_step 5 = .ok (.bipush 20, 2) := by decide +kernel
theorem dL_step_7 : decode cL_step 7 = .ok (.iload 7, 2) := by decide +kernel
theorem dL_step_9 : decode cL_step 9 = .ok (.imul, 1) := by decide +kernel
theorem dL_step_10 : decode cL_step 10 = .ok (.istore 8, 2) := by decide +kernel
theorem dL_step_12 : decode cL_step 12 = .ok (.iload_n 1, 1) := by decide +kernel
