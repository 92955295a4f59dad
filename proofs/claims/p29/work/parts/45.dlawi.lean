theorem dL_isSettled_15 : decode cL_isSettled 15 = .ok (.iload_n 2, 1) := by decide +kernel
theorem dL_isSettled_16 : decode cL_isSettled 16 = .ok (.imul, 1) := by decide +kernel
theorem dL_isSettled_17 : decode cL_isSettled 17 = .ok (.bipush 10, 2) := by decide +kernel
theorem dL_isSettled_19 : decode cL_isSettled 19 = .ok (.iadd, 1) := by decide +kernel
theorem dL_isSettled_20 : decode cL_isSettled 20 = .ok (.laload, 1) := by decide +kernel
theorem dL_isSettled_21 : decode cL_isSettled 21 = .ok (.aload_n 0, 1) := by decide +kernel
theorem dL_isSettled_22 : decode cL_isSettled 22 = .ok (.iload_n 2, 1) := by decide +kernel
theorem dL_isSettled_23 : decode cL_isSettled 23 = .ok (.invokevirtual 42, 3) := by decide +kernel
theorem dL_isSettled_26 : decode cL_isSettled 26 = .ok (.lsub, 1) := by decide +kernel
theorem dL_isSettled_27 : decode cL_isSettled 27 = .ok (.lstore 5, 2) := by decide +kernel
theorem dL_isSettled_29 : decode cL_isSettled 29 = .ok (.aload_n 0, 1) := by decide +kernel
theorem dL_isSettled_30 : decode cL_isSettled 30 = .ok (.iload_n 2, 1) := by decide +kernel
theorem dL_isSettled_31 : decode cL_isSettled 31 = .ok (.invokevirtual 82, 3) := by decide +kernel
theorem dL_isSettled_34 : decode cL_isSettled 34 = .ok (.ldc2_w 10, 3) := by decide +kernel
theorem dL_isSettled_37 : decode cL_isSettled 37 = .ok (.aload_n 0, 1) := by decide +kernel
theorem dL_isSettled_38 : decode cL_isSettled 38 = .ok (.iload_n 2, 1) := by decide +kernel
theorem dL_isSettled_39 : decode cL_isSettled 39 = .ok (.invokevirtual 52, 3) := by decide +kernel
theorem dL_isSettled_42 : decode cL_isSettled 42 = .ok (.lmul, 1) := by decide +kernel
theorem dL_isSettled_43 : decode cL_isSettled 43 = .ok (.aload_n 0, 1) := by decide +kernel
theorem dL_isSettled_44 : decode cL_isSettled 44 = .ok (.iload_n 2, 1) := by decide +kernel
theorem dL_isSettled_45 : decode cL_isSettled 45 = .ok (.iconst 0, 1) := by decide +kernel
theorem dL_isSettled_46 : decode cL_isSettled 46 = .ok (.invokevirtual 71, 3) := by decide +kernel
theorem dL_isSettled_49 : decode cL_isSettled 49 = .ok (.i2l, 1) := by decide +kernel
theorem dL_isSettled_50 : decode cL_isSettled 50 = .ok (.lload_n 3, 1) := by decide +kernel
theorem dL_isSettled_51 : decode cL_isSettled 51 = .ok (.lmul, 1) := by decide +kernel
theorem dL_isSettled_52 : decode cL_isSettled 52 = .ok (.lsub, 1) := by decide +kernel
theorem dL_isSettled_53 : decode cL_isSettled 53 = .ok (.aload_n 0, 1) := by decide +kernel
theorem dL_isSettled_54 : decode cL_isSettled 54 = .ok (.iload_n 2, 1) := by decide +kernel
theorem dL_isSettled_55 : decode cL_isSettled 55 = .ok (.iconst 2, 1) := by decide +kernel
theorem dL_isSettled_56 : decode cL_isSettled 56 = .ok (.invokevirtual 71, 3) := by decide +kernel
theorem dL_isSettled_59 : decode cL_isSettled 59 = .ok (.i2l, 1) := by decide +kernel
theorem dL_isSettled_60 : decode cL_isSettled 60 = .ok (.lload 5, 2) := by decide +kernel
theorem dL_isSettled_62 : decode cL_isSettled 62 = .ok (.lmul, 1) := by decide +kernel
theorem dL_isSettled_63 : decode cL_isSettled 63 = .ok (.lsub, 1) := by decide +kernel
theorem dL_isSettled_64 : decode cL_isSettled 64 = .ok (.lcmp, 1) := by decide +kernel
theorem dL_isSettled_65 : decode cL_isSettled 65 = .ok (.ifCond .ne 7, 3) := by decide +kernel
theorem dL_isSettled_68 : decode cL_isSettled 68 = .ok (.iconst 1, 1) := by decide +kernel
theorem dL_isSettled_69 : decode cL_isSettled 69 = .ok (.goto 4, 3) := by decide +kernel
theorem dL_isSettled_72 : decode cL_isSettled 72 = .ok (.iconst 0, 1) := by decide +kernel
theorem dL_isSettled_73 : decode cL_isSettled 73 = .ok (.ireturn, 1) := by decide +kernel
theorem dL_modes_0 : decode cL_modes 0 = .ok (.aload_n 0, 1) := by decide +kernel
theorem dL_modes_1 : decode cL_modes 1 = .ok (.iload_n 3, 1) := by decide +kernel
theorem dL_modes_2 : decode cL_modes 2 = .ok (.invokevirtual 30, 3) := by decide +kernel
theorem dL_modes_5 : decode cL_modes 5 = .ok (.istore 5, 2) := by decide +kernel
theorem dL_modes_7 : decode cL_modes 7 = .ok (.bipush 20, 2) := by decide +kernel
theorem dL_modes_9 : decode cL_modes 9 = .ok (.iload_n 3, 1) := by decide +kernel
theorem dL_modes_10 : decode cL_modes 10 = .ok (.imul, 1) := by decide +kernel
theorem dL_modes_11 : decode cL_modes 11 = .ok (.istore 6, 2) := by decide +kernel
theorem dL_modes_13 : decode cL_modes 13 = .ok (.iload 5, 2) := by decide +kernel
theorem dL_modes_15 : decode cL_modes 15 = .ok (.iconst 3, 1) := by decide +kernel
theorem dL_modes_16 : decode cL_modes 16 = .ok (.if_icmp .ne 8, 3) := by decide +kernel
theorem dL_modes_19 : decode cL_modes 19 = .ok (.iload 4, 2) := by decide +kernel
theorem dL_modes_21 : decode cL_modes 21 = .ok (.ifCond .ne 21, 3) := by decide +kernel
theorem dL_modes_24 : decode cL_modes 24 = .ok (.iload 4, 2) := by decide +kernel
theorem dL_modes_26 : decode cL_modes 26 = .ok (.iconst 2, 1) := by decide +kernel
theorem dL_modes_27 : decode cL_modes 27 = .ok (.if_icmp .ne 17, 3) := by decide +kernel
theorem dL_modes_30 : decode cL_modes 30 = .ok (.aload_n 1, 1) := by decide +kernel
theorem dL_modes_31 : decode cL_modes 31 = .ok (.iload 6, 2) := by decide +kernel
theorem dL_modes_33 : decode cL_modes 33 = .ok (.bipush 9, 2) := by decide +kernel
theorem dL_modes_35 : decode cL_modes 35 = .ok (.iadd, 1) := by decide +kernel
theorem dL_modes_36 : decode cL_modes 36 = .ok (.laload, 1) := by decide +kernel
theorem dL_modes_37 : decode cL_modes 37 = .ok (.lconst 0, 1) := by decide +kernel
theorem dL_modes_38 : decode cL_modes 38 = .ok (.lcmp, 1) := by decide +kernel
theorem dL_modes_39 : decode cL_modes 39 = .ok (.ifCond .ne 5, 3) := by decide +kernel
theorem dL_modes_42 : decode cL_modes 42 = .ok (.iconst 1, 1) := by decide +kernel
theorem dL_modes_43 : decode cL_modes 43 = .ok (.ireturn, 1) := by decide +kernel
theorem dL_modes_44 : decode cL_modes 44 = .ok (.aload_n 0, 1) := by decide +kernel
theorem dL_modes_45 : decode cL_modes 45 = .ok (.iload_n 3, 1) := by decide +kernel
theorem dL_modes_46 : decode cL_modes 46 = .ok (.iload 4, 2) := by decide +kernel
theorem dL_modes_48 : decode cL_modes 48 = .ok (.invokevirtual 119, 3) := by decide +kernel
theorem dL_modes_51 : decode cL_modes 51 = .ok (.iload 5, 2) := by decide +kernel
theorem dL_modes_53 : decode cL_modes 53 = .ok (.if_icmp .ne 17, 3) := by decide +kernel
theorem dL_modes_56 : decode cL_modes 56 = .ok (.aload_n 0, 1) := by decide +kernel
theorem dL_modes_57 : decode cL_modes 57 = .ok (.iload_n 3, 1) := by decide +kernel
theorem dL_modes_58 : decode cL_modes 58 = .ok (.invokevirtual 30, 3) := by decide +kernel
theorem dL_modes_61 : decode cL_modes 61 = .ok (.iload 4, 2) := by decide +kernel
theorem dL_modes_63 : decode cL_modes 63 = .ok (.if_icmp .ne 7, 3) := by decide +kernel
theorem dL_modes_66 : decode cL_modes 66 = .ok (.iconst 1, 1) := by decide +kernel
theorem dL_modes_67 : decode cL_modes 67 = .ok (.goto 4, 3) := by decide +kernel
theorem dL_modes_70 : decode cL_modes 70 = .ok (.iconst 0, 1) := by decide +kernel
theorem dL_modes_71 : decode cL_modes 71 = .ok (.istore 7, 2) := by decide +kernel
theorem dL_modes_73 : decode cL_modes 73 = .ok (.iload 5, 2) := by decide +kernel
theorem dL_modes_75 : decode cL_modes 75 = .ok (.ifCond .ne 67, 3) := by decide +kernel
theorem dL_modes_78 : decode cL_modes 78 = .ok (.iload 4, 2) := by decide +kernel
theorem dL_modes_80 : decode cL_modes 80 = .ok (.ifCond .le 62, 3) := by decide +kernel
theorem dL_modes_83 : decode cL_modes 83 = .ok (.aload_n 1, 1) := by decide +kernel
theorem dL_modes_84 : decode cL_modes 84 = .ok (.iload 6, 2) := by decide +kernel
theorem dL_modes_86 : decode cL_modes 86 = .ok (.bipush 15, 2) := by decide +kernel
theorem dL_modes_88 : decode cL_modes 88 = .ok (.iadd, 1) := by decide +kernel
theorem dL_modes_89 : decode cL_modes 89 = .ok (.iload 4, 2) := by decide +kernel
theorem dL_modes_91 : decode cL_modes 91 = .ok (.iconst 1, 1) := by decide +kernel
theorem dL_modes_92 : decode cL_modes 92 = .ok (.if_icmp .ne 7, 3) := by decide +kernel
theorem dL_modes_95 : decode cL_modes 95 = .ok (.lconst 1, 1) := by decide +kernel
theorem dL_modes_96 : decode cL_modes 96 = .ok (.goto 4, 3) := by decide +kernel
theorem dL_modes_99 : decode cL_modes 99 = .ok (.lconst 0, 1) := by decide +kernel
theorem dL_modes_100 : decode cL_modes 100 = .ok (.lastore, 1) := by decide +kernel
theorem dL_modes_101 : decode cL_modes 101 = .ok (.aload_n 1, 1) := by decide +kernel
theorem dL_modes_102 : decode cL_modes 102 = .ok (.iload 6, 2) := by decide +kernel
theorem dL_modes_104 : decode cL_modes 104 = .ok (.bipush 16, 2) := by decide +kernel
theorem dL_modes_106 : decode cL_modes 106 = .ok (.iadd, 1) := by decide +kernel
theorem dL_modes_107 : decode cL_modes 107 = .ok (.aload_n 0, 1) := by decide +kernel
theorem dL_modes_108 : decode cL_modes 108 = .ok (.iload_n 3, 1) := by decide +kernel
theorem dL_modes_109 : decode cL_modes 109 = .ok (.invokevirtual 52, 3) := by decide +kernel
theorem dL_modes_112 : decode cL_modes 112 = .ok (.lastore, 1) := by decide +kernel
theorem dL_modes_113 : decode cL_modes 113 = .ok (.aload_n 1, 1) := by decide +kernel
theorem dL_modes_114 : decode cL_modes 114 = .ok (.iload 6, 2) := by decide +kernel
theorem dL_modes_116 : decode cL_modes 116 = .ok (.bipush 14, 2) := by decide +kernel
theorem dL_modes_118 : decode cL_modes 118 = .ok (.iadd, 1) := by decide +kernel
theorem dL_modes_119 : decode cL_modes 119 = .ok (.lconst 0, 1) := by decide +kernel
theorem dL_modes_120 : decode cL_modes 120 = .ok (.lastore, 1) := by decide +kernel
theorem dL_modes_121 : decode cL_modes 121 = .ok (.iload 7, 2) := by decide +kernel
theorem dL_modes_123 : decode cL_modes 123 = .ok (.ifCond .eq 16, 3) := by decide +kernel
theorem dL_modes_126 : decode cL_modes 126 = .ok (.aload_n 0, 1) := by decide +kernel
theorem dL_modes_127 : decode cL_modes 127 = .ok (.aload_n 1, 1) := by decide +kernel
theorem dL_modes_128 : decode cL_modes 128 = .ok (.iload_n 3, 1) := by decide +kernel
theorem dL_modes_129 : decode cL_modes 129 = .ok (.invokestatic 122, 3) := by decide +kernel
theorem dL_modes_132 : decode cL_modes 132 = .ok (.ifCond .eq 7, 3) := by decide +kernel
theorem dL_modes_135 : decode cL_modes 135 = .ok (.iconst 1, 1) := by decide +kernel
theorem dL_modes_136 : decode cL_modes 136 = .ok (.goto 4, 3) := by decide +kernel
theorem dL_modes_139 : decode cL_modes 139 = .ok (.iconst 0, 1) := by decide +kernel
theorem dL_modes_140 : decode cL_modes 140 = .ok (.istore 7, 2) := by decide +kernel
theorem dL_modes_142 : decode cL_modes 142 = .ok (.iload 4, 2) := by decide +kernel
theorem dL_modes_144 : decode cL_modes 144 = .ok (.ifCond .ne 54, 3) := by decide +kernel
theorem dL_modes_147 : decode cL_modes 147 = .ok (.iload 5, 2) := by decide +kernel
theorem dL_modes_149 : decode cL_modes 149 = .ok (.ifCond .le 49, 3) := by decide +kernel
theorem dL_modes_152 : decode cL_modes 152 = .ok (.aload_n 1, 1) := by decide +kernel
theorem dL_modes_153 : decode cL_modes 153 = .ok (.iload 6, 2) := by decide +kernel
theorem dL_modes_155 : decode cL_modes 155 = .ok (.bipush 7, 2) := by decide +kernel
theorem dL_modes_157 : decode cL_modes 157 = .ok (.iadd, 1) := by decide +kernel
theorem dL_modes_158 : decode cL_modes 158 = .ok (.aload_n 0, 1) := by decide +kernel
