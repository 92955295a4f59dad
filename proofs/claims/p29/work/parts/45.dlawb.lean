theorem dL_isGain_36 : decode cL_isGain 36 = .ok (.lstore 11, 2) := by decide +kernel
theorem dL_isGain_38 : decode cL_isGain 38 = .ok (.lload 11, 2) := by decide +kernel
theorem dL_isGain_40 : decode cL_isGain 40 = .ok (.lload 6, 2) := by decide +kernel
theorem dL_isGain_42 : decode cL_isGain 42 = .ok (.lcmp, 1) := by decide +kernel
theorem dL_isGain_43 : decode cL_isGain 43 = .ok (.ifCond .ge 8, 3) := by decide +kernel
theorem dL_isGain_46 : decode cL_isGain 46 = .ok (.lload 11, 2) := by decide +kernel
theorem dL_isGain_48 : decode cL_isGain 48 = .ok (.goto 5, 3) := by decide +kernel
theorem dL_isGain_51 : decode cL_isGain 51 = .ok (.lload 6, 2) := by decide +kernel
theorem dL_isGain_53 : decode cL_isGain 53 = .ok (.lstore 6, 2) := by decide +kernel
theorem dL_isGain_55 : decode cL_isGain 55 = .ok (.lload 11, 2) := by decide +kernel
theorem dL_isGain_57 : decode cL_isGain 57 = .ok (.lload 8, 2) := by decide +kernel
theorem dL_isGain_59 : decode cL_isGain 59 = .ok (.lcmp, 1) := by decide +kernel
theorem dL_isGain_60 : decode cL_isGain 60 = .ok (.ifCond .le 8, 3) := by decide +kernel
theorem dL_isGain_63 : decode cL_isGain 63 = .ok (.lload 11, 2) := by decide +kernel
theorem dL_isGain_65 : decode cL_isGain 65 = .ok (.goto 5, 3) := by decide +kernel
theorem dL_isGain_68 : decode cL_isGain 68 = .ok (.lload 8, 2) := by decide +kernel
theorem dL_isGain_70 : decode cL_isGain 70 = .ok (.lstore 8, 2) := by decide +kernel
theorem dL_isGain_72 : decode cL_isGain 72 = .ok (.iinc 10 1, 3) := by decide +kernel
theorem dL_isGain_75 : decode cL_isGain 75 = .ok (.goto (-62), 3) := by decide +kernel
theorem dL_isGain_78 : decode cL_isGain 78 = .ok (.iload 5, 2) := by decide +kernel
theorem dL_isGain_80 : decode cL_isGain 80 = .ok (.ifCond .eq 17, 3) := by decide +kernel
theorem dL_isGain_83 : decode cL_isGain 83 = .ok (.lload_n 0, 1) := by decide +kernel
theorem dL_isGain_84 : decode cL_isGain 84 = .ok (.lload 6, 2) := by decide +kernel
theorem dL_isGain_86 : decode cL_isGain 86 = .ok (.lcmp, 1) := by decide +kernel
theorem dL_isGain_87 : decode cL_isGain 87 = .ok (.ifCond .lt 14, 3) := by decide +kernel
theorem dL_isGain_90 : decode cL_isGain 90 = .ok (.lload_n 0, 1) := by decide +kernel
theorem dL_isGain_91 : decode cL_isGain 91 = .ok (.lload 8, 2) := by decide +kernel
theorem dL_isGain_93 : decode cL_isGain 93 = .ok (.lcmp, 1) := by decide +kernel
theorem dL_isGain_94 : decode cL_isGain 94 = .ok (.ifCond .gt 7, 3) := by decide +kernel
theorem dL_isGain_97 : decode cL_isGain 97 = .ok (.iconst 1, 1) := by decide +kernel
theorem dL_isGain_98 : decode cL_isGain 98 = .ok (.goto 4, 3) := by decide +kernel
theorem dL_isGain_101 : decode cL_isGain 101 = .ok (.iconst 0, 1) := by decide +kernel
theorem dL_isGain_102 : decode cL_isGain 102 = .ok (.ireturn, 1) := by decide +kernel
theorem dL_samples_0 : decode cL_samples 0 = .ok (.iconst 3, 1) := by decide +kernel
theorem dL_samples_1 : decode cL_samples 1 = .ok (.newarray .int, 2) := by decide +kernel
theorem dL_samples_3 : decode cL_samples 3 = .ok (.astore 6, 2) := by decide +kernel
theorem dL_samples_5 : decode cL_samples 5 = .ok (.iconst 3, 1) := by decide +kernel
theorem dL_samples_6 : decode cL_samples 6 = .ok (.newarray .int, 2) := by decide +kernel
theorem dL_samples_8 : decode cL_samples 8 = .ok (.astore 7, 2) := by decide +kernel
theorem dL_samples_10 : decode cL_samples 10 = .ok (.iconst 3, 1) := by decide +kernel
theorem dL_samples_11 : decode cL_samples 11 = .ok (.newarray .int, 2) := by decide +kernel
theorem dL_samples_13 : decode cL_samples 13 = .ok (.astore 8, 2) := by decide +kernel
theorem dL_samples_15 : decode cL_samples 15 = .ok (.iconst 3, 1) := by decide +kernel
theorem dL_samples_16 : decode cL_samples 16 = .ok (.newarray .long, 2) := by decide +kernel
theorem dL_samples_18 : decode cL_samples 18 = .ok (.astore 9, 2) := by decide +kernel
theorem dL_samples_20 : decode cL_samples 20 = .ok (.iconst 3, 1) := by decide +kernel
theorem dL_samples_21 : decode cL_samples 21 = .ok (.newarray .long, 2) := by decide +kernel
theorem dL_samples_23 : decode cL_samples 23 = .ok (.astore 10, 2) := by decide +kernel
theorem dL_samples_25 : decode cL_samples 25 = .ok (.iconst 0, 1) := by decide +kernel
theorem dL_samples_26 : decode cL_samples 26 = .ok (.istore 11, 2) := by decide +kernel
theorem dL_samples_28 : decode cL_samples 28 = .ok (.iload 11, 2) := by decide +kernel
theorem dL_samples_30 : decode cL_samples 30 = .ok (.iconst 3, 1) := by decide +kernel
theorem dL_samples_31 : decode cL_samples 31 = .ok (.if_icmp .ge 64, 3) := by decide +kernel
theorem dL_samples_34 : decode cL_samples 34 = .ok (.aload 6, 2) := by decide +kernel
theorem dL_samples_36 : decode cL_samples 36 = .ok (.iload 11, 2) := by decide +kernel
theorem dL_samples_38 : decode cL_samples 38 = .ok (.aload_n 0, 1) := by decide +kernel
theorem dL_samples_39 : decode cL_samples 39 = .ok (.iload 11, 2) := by decide +kernel
theorem dL_samples_41 : decode cL_samples 41 = .ok (.invokevirtual 30, 3) := by decide +kernel
theorem dL_samples_44 : decode cL_samples 44 = .ok (.iastore, 1) := by decide +kernel
theorem dL_samples_45 : decode cL_samples 45 = .ok (.aload 7, 2) := by decide +kernel
theorem dL_samples_47 : decode cL_samples 47 = .ok (.iload 11, 2) := by decide +kernel
theorem dL_samples_49 : decode cL_samples 49 = .ok (.aload_n 0, 1) := by decide +kernel
theorem dL_samples_50 : decode cL_samples 50 = .ok (.iload 11, 2) := by decide +kernel
theorem dL_samples_52 : decode cL_samples 52 = .ok (.invokevirtual 36, 3) := by decide +kernel
theorem dL_samples_55 : decode cL_samples 55 = .ok (.iastore, 1) := by decide +kernel
theorem dL_samples_56 : decode cL_samples 56 = .ok (.aload 8, 2) := by decide +kernel
theorem dL_samples_58 : decode cL_samples 58 = .ok (.iload 11, 2) := by decide +kernel
theorem dL_samples_60 : decode cL_samples 60 = .ok (.aload_n 0, 1) := by decide +kernel
theorem dL_samples_61 : decode cL_samples 61 = .ok (.iload 11, 2) := by decide +kernel
theorem dL_samples_63 : decode cL_samples 63 = .ok (.invokevirtual 39, 3) := by decide +kernel
theorem dL_samples_66 : decode cL_samples 66 = .ok (.iastore, 1) := by decide +kernel
theorem dL_samples_67 : decode cL_samples 67 = .ok (.aload 9, 2) := by decide +kernel
theorem dL_samples_69 : decode cL_samples 69 = .ok (.iload 11, 2) := by decide +kernel
theorem dL_samples_71 : decode cL_samples 71 = .ok (.aload_n 0, 1) := by decide +kernel
theorem dL_samples_72 : decode cL_samples 72 = .ok (.iload 11, 2) := by decide +kernel
theorem dL_samples_74 : decode cL_samples 74 = .ok (.invokevirtual 42, 3) := by decide +kernel
theorem dL_samples_77 : decode cL_samples 77 = .ok (.lastore, 1) := by decide +kernel
theorem dL_samples_78 : decode cL_samples 78 = .ok (.aload 10, 2) := by decide +kernel
theorem dL_samples_80 : decode cL_samples 80 = .ok (.iload 11, 2) := by decide +kernel
theorem dL_samples_82 : decode cL_samples 82 = .ok (.aload_n 0, 1) := by decide +kernel
theorem dL_samples_83 : decode cL_samples 83 = .ok (.iload 11, 2) := by decide +kernel
theorem dL_samples_85 : decode cL_samples 85 = .ok (.invokevirtual 46, 3) := by decide +kernel
theorem dL_samples_88 : decode cL_samples 88 = .ok (.lastore, 1) := by decide +kernel
theorem dL_samples_89 : decode cL_samples 89 = .ok (.iinc 11 1, 3) := by decide +kernel
theorem dL_samples_92 : decode cL_samples 92 = .ok (.goto (-64), 3) := by decide +kernel
theorem dL_samples_95 : decode cL_samples 95 = .ok (.aload_n 0, 1) := by decide +kernel
theorem dL_samples_96 : decode cL_samples 96 = .ok (.iconst 1, 1) := by decide +kernel
theorem dL_samples_97 : decode cL_samples 97 = .ok (.invokevirtual 49, 3) := by decide +kernel
theorem dL_samples_100 : decode cL_samples 100 = .ok (.iload 5, 2) := by decide +kernel
theorem dL_samples_102 : decode cL_samples 102 = .ok (.iconst 1, 1) := by decide +kernel
theorem dL_samples_103 : decode cL_samples 103 = .ok (.iadd, 1) := by decide +kernel
theorem dL_samples_104 : decode cL_samples 104 = .ok (.if_icmp .ne 7, 3) := by decide +kernel
theorem dL_samples_107 : decode cL_samples 107 = .ok (.iconst 1, 1) := by decide +kernel
theorem dL_samples_108 : decode cL_samples 108 = .ok (.goto 4, 3) := by decide +kernel
theorem dL_samples_111 : decode cL_samples 111 = .ok (.iconst 0, 1) := by decide +kernel
theorem dL_samples_112 : decode cL_samples 112 = .ok (.istore 11, 2) := by decide +kernel
theorem dL_samples_114 : decode cL_samples 114 = .ok (.iconst 0, 1) := by decide +kernel
theorem dL_samples_115 : decode cL_samples 115 = .ok (.istore 12, 2) := by decide +kernel
theorem dL_samples_117 : decode cL_samples 117 = .ok (.iload 12, 2) := by decide +kernel
theorem dL_samples_119 : decode cL_samples 119 = .ok (.iconst 3, 1) := by decide +kernel
theorem dL_samples_120 : decode cL_samples 120 = .ok (.if_icmp .ge 645, 3) := by decide +kernel
theorem dL_samples_123 : decode cL_samples 123 = .ok (.iload 11, 2) := by decide +kernel
theorem dL_samples_125 : decode cL_samples 125 = .ok (.ifCond .eq 640, 3) := by decide +kernel
theorem dL_samples_128 : decode cL_samples 128 = .ok (.bipush 20, 2) := by decide +kernel
theorem dL_samples_130 : decode cL_samples 130 = .ok (.iload 12, 2) := by decide +kernel
theorem dL_samples_132 : decode cL_samples 132 = .ok (.imul, 1) := by decide +kernel
theorem dL_samples_133 : decode cL_samples 133 = .ok (.istore 13, 2) := by decide +kernel
theorem dL_samples_135 : decode cL_samples 135 = .ok (.aload_n 1, 1) := by decide +kernel
theorem dL_samples_136 : decode cL_samples 136 = .ok (.iload 13, 2) := by decide +kernel
theorem dL_samples_138 : decode cL_samples 138 = .ok (.iconst 5, 1) := by decide +kernel
theorem dL_samples_139 : decode cL_samples 139 = .ok (.iadd, 1) := by decide +kernel
theorem dL_samples_140 : decode cL_samples 140 = .ok (.laload, 1) := by decide +kernel
theorem dL_samples_141 : decode cL_samples 141 = .ok (.lstore 14, 2) := by decide +kernel
theorem dL_samples_143 : decode cL_samples 143 = .ok (.aload_n 1, 1) := by decide +kernel
theorem dL_samples_144 : decode cL_samples 144 = .ok (.iload 13, 2) := by decide +kernel
theorem dL_samples_146 : decode cL_samples 146 = .ok (.bipush 6, 2) := by decide +kernel
theorem dL_samples_148 : decode cL_samples 148 = .ok (.iadd, 1) := by decide +kernel
theorem dL_samples_149 : decode cL_samples 149 = .ok (.laload, 1) := by decide +kernel
theorem dL_samples_150 : decode cL_samples 150 = .ok (.lstore 16, 2) := by decide +kernel
theorem dL_samples_152 : decode cL_samples 152 = .ok (.aload_n 0, 1) := by decide +kernel
theorem dL_samples_153 : decode cL_samples 153 = .ok (.iload 12, 2) := by decide +kernel
theorem dL_samples_155 : decode cL_samples 155 = .ok (.invokevirtual 52, 3) := by decide +kernel
theorem dL_samples_158 : decode cL_samples 158 = .ok (.lstore 18, 2) := by decide +kernel
theorem dL_samples_160 : decode cL_samples 160 = .ok (.aload 6, 2) := by decide +kernel
theorem dL_samples_162 : decode cL_samples 162 = .ok (.iload 12, 2) := by decide +kernel
theorem dL_samples_164 : decode cL_samples 164 = .ok (.iaload, 1) := by decide +kernel
theorem dL_samples_165 : decode cL_samples 165 = .ok (.iconst 1, 1) := by decide +kernel
theorem dL_samples_166 : decode cL_samples 166 = .ok (.if_icmp .eq 12, 3) := by decide +kernel
theorem dL_samples_169 : decode cL_samples 169 = .ok (.aload 6, 2) := by decide +kernel
theorem dL_samples_171 : decode cL_samples 171 = .ok (.iload 12, 2) := by decide +kernel
