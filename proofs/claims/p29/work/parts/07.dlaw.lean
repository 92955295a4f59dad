theorem dL_draw_0 : decode cL_draw 0 = .ok (.iload_n 1, 1) := by decide +kernel
theorem dL_draw_1 : decode cL_draw 1 = .ok (.aload_n 0, 1) := by decide +kernel
theorem dL_draw_2 : decode cL_draw 2 = .ok (.arraylength, 1) := by decide +kernel
theorem dL_draw_3 : decode cL_draw 3 = .ok (.if_icmp .ge 9, 3) := by decide +kernel
theorem dL_draw_6 : decode cL_draw 6 = .ok (.aload_n 0, 1) := by decide +kernel
theorem dL_draw_7 : decode cL_draw 7 = .ok (.iload_n 1, 1) := by decide +kernel
theorem dL_draw_8 : decode cL_draw 8 = .ok (.iaload, 1) := by decide +kernel
theorem dL_draw_9 : decode cL_draw 9 = .ok (.goto 13, 3) := by decide +kernel
theorem dL_draw_12 : decode cL_draw 12 = .ok (.ldc 7, 2) := by decide +kernel
theorem dL_draw_14 : decode cL_draw 14 = .ok (.iload_n 1, 1) := by decide +kernel
theorem dL_draw_15 : decode cL_draw 15 = .ok (.bipush 25, 2) := by decide +kernel
theorem dL_draw_17 : decode cL_draw 17 = .ok (.iadd, 1) := by decide +kernel
theorem dL_draw_18 : decode cL_draw 18 = .ok (.imul, 1) := by decide +kernel
theorem dL_draw_19 : decode cL_draw 19 = .ok (.ldc 8, 2) := by decide +kernel
theorem dL_draw_21 : decode cL_draw 21 = .ok (.iadd, 1) := by decide +kernel
theorem dL_draw_22 : decode cL_draw 22 = .ok (.istore_n 3, 1) := by decide +kernel
theorem dL_draw_23 : decode cL_draw 23 = .ok (.iload_n 3, 1) := by decide +kernel
theorem dL_draw_24 : decode cL_draw 24 = .ok (.ldc 9, 2) := by decide +kernel
theorem dL_draw_26 : decode cL_draw 26 = .ok (.iand, 1) := by decide +kernel
theorem dL_draw_27 : decode cL_draw 27 = .ok (.iload_n 2, 1) := by decide +kernel
theorem dL_draw_28 : decode cL_draw 28 = .ok (.irem, 1) := by decide +kernel
theorem dL_draw_29 : decode cL_draw 29 = .ok (.ireturn, 1) := by decide +kernel
theorem dL_floor_0 : decode cL_floor 0 = .ok (.lload_n 0, 1) := by decide +kernel
theorem dL_floor_1 : decode cL_floor 1 = .ok (.lload_n 2, 1) := by decide +kernel
theorem dL_floor_2 : decode cL_floor 2 = .ok (.lrem, 1) := by decide +kernel
theorem dL_floor_3 : decode cL_floor 3 = .ok (.lstore 4, 2) := by decide +kernel
theorem dL_floor_5 : decode cL_floor 5 = .ok (.lload_n 0, 1) := by decide +kernel
theorem dL_floor_6 : decode cL_floor 6 = .ok (.lload 4, 2) := by decide +kernel
theorem dL_floor_8 : decode cL_floor 8 = .ok (.lconst 0, 1) := by decide +kernel
theorem dL_floor_9 : decode cL_floor 9 = .ok (.lcmp, 1) := by decide +kernel
theorem dL_floor_10 : decode cL_floor 10 = .ok (.ifCond .ge 10, 3) := by decide +kernel
theorem dL_floor_13 : decode cL_floor 13 = .ok (.lload 4, 2) := by decide +kernel
theorem dL_floor_15 : decode cL_floor 15 = .ok (.lload_n 2, 1) := by decide +kernel
theorem dL_floor_16 : decode cL_floor 16 = .ok (.ladd, 1) := by decide +kernel
theorem dL_floor_17 : decode cL_floor 17 = .ok (.goto 5, 3) := by decide +kernel
theorem dL_floor_20 : decode cL_floor 20 = .ok (.lload 4, 2) := by decide +kernel
theorem dL_floor_22 : decode cL_floor 22 = .ok (.lsub, 1) := by decide +kernel
theorem dL_floor_23 : decode cL_floor 23 = .ok (.lload_n 2, 1) := by decide +kernel
theorem dL_floor_24 : decode cL_floor 24 = .ok (.ldiv, 1) := by decide +kernel
theorem dL_floor_25 : decode cL_floor 25 = .ok (.lreturn, 1) := by decide +kernel
theorem dL_within_0 : decode cL_within 0 = .ok (.lload_n 0, 1) := by decide +kernel
theorem dL_within_1 : decode cL_within 1 = .ok (.lload_n 2, 1) := by decide +kernel
theorem dL_within_2 : decode cL_within 2 = .ok (.lcmp, 1) := by decide +kernel
theorem dL_within_3 : decode cL_within 3 = .ok (.ifCond .ge 7, 3) := by decide +kernel
theorem dL_within_6 : decode cL_within 6 = .ok (.lload_n 2, 1) := by decide +kernel
theorem dL_within_7 : decode cL_within 7 = .ok (.goto 16, 3) := by decide +kernel
theorem dL_within_10 : decode cL_within 10 = .ok (.lload_n 0, 1) := by decide +kernel
theorem dL_within_11 : decode cL_within 11 = .ok (.lload 4, 2) := by decide +kernel
theorem dL_within_13 : decode cL_within 13 = .ok (.lcmp, 1) := by decide +kernel
theorem dL_within_14 : decode cL_within 14 = .ok (.ifCond .le 8, 3) := by decide +kernel
theorem dL_within_17 : decode cL_within 17 = .ok (.lload 4, 2) := by decide +kernel
theorem dL_within_19 : decode cL_within 19 = .ok (.goto 4, 3) := by decide +kernel
theorem dL_within_22 : decode cL_within 22 = .ok (.lload_n 0, 1) := by decide +kernel
theorem dL_within_23 : decode cL_within 23 = .ok (.lreturn, 1) := by decide +kernel
theorem dL_next_0 : decode cL_next 0 = .ok (.bipush 20, 2) := by decide +kernel
theorem dL_next_2 : decode cL_next 2 = .ok (.iload_n 2, 1) := by decide +kernel
theorem dL_next_3 : decode cL_next 3 = .ok (.imul, 1) := by decide +kernel
theorem dL_next_4 : decode cL_next 4 = .ok (.istore 5, 2) := by decide +kernel
theorem dL_next_6 : decode cL_next 6 = .ok (.aload_n 0, 1) := by decide +kernel
theorem dL_next_7 : decode cL_next 7 = .ok (.iload 5, 2) := by decide +kernel
theorem dL_next_9 : decode cL_next 9 = .ok (.laload, 1) := by decide +kernel
theorem dL_next_10 : decode cL_next 10 = .ok (.lload_n 3, 1) := by decide +kernel
theorem dL_next_11 : decode cL_next 11 = .ok (.lmul, 1) := by decide +kernel
theorem dL_next_12 : decode cL_next 12 = .ok (.aload_n 0, 1) := by decide +kernel
theorem dL_next_13 : decode cL_next 13 = .ok (.iload 5, 2) := by decide +kernel
theorem dL_next_15 : decode cL_next 15 = .ok (.iconst 1, 1) := by decide +kernel
theorem dL_next_16 : decode cL_next 16 = .ok (.iadd, 1) := by decide +kernel
theorem dL_next_17 : decode cL_next 17 = .ok (.laload, 1) := by decide +kernel
theorem dL_next_18 : decode cL_next 18 = .ok (.aload_n 0, 1) := by decide +kernel
theorem dL_next_19 : decode cL_next 19 = .ok (.iload 5, 2) := by decide +kernel
theorem dL_next_21 : decode cL_next 21 = .ok (.bipush 10, 2) := by decide +kernel
theorem dL_next_23 : decode cL_next 23 = .ok (.iadd, 1) := by decide +kernel
theorem dL_next_24 : decode cL_next 24 = .ok (.laload, 1) := by decide +kernel
theorem dL_next_25 : decode cL_next 25 = .ok (.lmul, 1) := by decide +kernel
theorem dL_next_26 : decode cL_next 26 = .ok (.ladd, 1) := by decide +kernel
theorem dL_next_27 : decode cL_next 27 = .ok (.aload_n 0, 1) := by decide +kernel
theorem dL_next_28 : decode cL_next 28 = .ok (.iload 5, 2) := by decide +kernel
theorem dL_next_30 : decode cL_next 30 = .ok (.iconst 2, 1) := by decide +kernel
theorem dL_next_31 : decode cL_next 31 = .ok (.iadd, 1) := by decide +kernel
theorem dL_next_32 : decode cL_next 32 = .ok (.laload, 1) := by decide +kernel
theorem dL_next_33 : decode cL_next 33 = .ok (.aload_n 1, 1) := by decide +kernel
theorem dL_next_34 : decode cL_next 34 = .ok (.bipush 11, 2) := by decide +kernel
theorem dL_next_36 : decode cL_next 36 = .ok (.iload_n 2, 1) := by decide +kernel
theorem dL_next_37 : decode cL_next 37 = .ok (.imul, 1) := by decide +kernel
theorem dL_next_38 : decode cL_next 38 = .ok (.aload_n 0, 1) := by decide +kernel
theorem dL_next_39 : decode cL_next 39 = .ok (.iload 5, 2) := by decide +kernel
theorem dL_next_41 : decode cL_next 41 = .ok (.iconst 3, 1) := by decide +kernel
theorem dL_next_42 : decode cL_next 42 = .ok (.iadd, 1) := by decide +kernel
theorem dL_next_43 : decode cL_next 43 = .ok (.laload, 1) := by decide +kernel
theorem dL_next_44 : decode cL_next 44 = .ok (.l2i, 1) := by decide +kernel
theorem dL_next_45 : decode cL_next 45 = .ok (.iadd, 1) := by decide +kernel
theorem dL_next_46 : decode cL_next 46 = .ok (.laload, 1) := by decide +kernel
theorem dL_next_47 : decode cL_next 47 = .ok (.lmul, 1) := by decide +kernel
theorem dL_next_48 : decode cL_next 48 = .ok (.ladd, 1) := by decide +kernel
theorem dL_next_49 : decode cL_next 49 = .ok (.lstore 6, 2) := by decide +kernel
theorem dL_next_51 : decode cL_next 51 = .ok (.lload 6, 2) := by decide +kernel
theorem dL_next_53 : decode cL_next 53 = .ok (.ldc2_w 10, 3) := by decide +kernel
theorem dL_next_56 : decode cL_next 56 = .ok (.invokestatic 12, 3) := by decide +kernel
theorem dL_next_59 : decode cL_next 59 = .ok (.aload_n 0, 1) := by decide +kernel
theorem dL_next_60 : decode cL_next 60 = .ok (.iload 5, 2) := by decide +kernel
theorem dL_next_62 : decode cL_next 62 = .ok (.iconst 4, 1) := by decide +kernel
theorem dL_next_63 : decode cL_next 63 = .ok (.iadd, 1) := by decide +kernel
theorem dL_next_64 : decode cL_next 64 = .ok (.laload, 1) := by decide +kernel
theorem dL_next_65 : decode cL_next 65 = .ok (.ladd, 1) := by decide +kernel
theorem dL_next_66 : decode cL_next 66 = .ok (.ldc2_w 18, 3) := by decide +kernel
theorem dL_next_69 : decode cL_next 69 = .ok (.ldc2_w 20, 3) := by decide +kernel
theorem dL_next_72 : decode cL_next 72 = .ok (.invokestatic 22, 3) := by decide +kernel
theorem dL_next_75 : decode cL_next 75 = .ok (.lreturn, 1) := by decide +kernel
theorem dL_isGain_0 : decode cL_isGain 0 = .ok (.ldc2_w 26, 3) := by decide +kernel
theorem dL_isGain_3 : decode cL_isGain 3 = .ok (.lstore 6, 2) := by decide +kernel
theorem dL_isGain_5 : decode cL_isGain 5 = .ok (.ldc2_w 28, 3) := by decide +kernel
theorem dL_isGain_8 : decode cL_isGain 8 = .ok (.lstore 8, 2) := by decide +kernel
theorem dL_isGain_10 : decode cL_isGain 10 = .ok (.iconst 0, 1) := by decide +kernel
theorem dL_isGain_11 : decode cL_isGain 11 = .ok (.istore 10, 2) := by decide +kernel
theorem dL_isGain_13 : decode cL_isGain 13 = .ok (.iload 10, 2) := by decide +kernel
theorem dL_isGain_15 : decode cL_isGain 15 = .ok (.iload 5, 2) := by decide +kernel
theorem dL_isGain_17 : decode cL_isGain 17 = .ok (.if_icmp .ge 61, 3) := by decide +kernel
theorem dL_isGain_20 : decode cL_isGain 20 = .ok (.aload_n 2, 1) := by decide +kernel
theorem dL_isGain_21 : decode cL_isGain 21 = .ok (.bipush 20, 2) := by decide +kernel
theorem dL_isGain_23 : decode cL_isGain 23 = .ok (.iload_n 3, 1) := by decide +kernel
theorem dL_isGain_24 : decode cL_isGain 24 = .ok (.imul, 1) := by decide +kernel
theorem dL_isGain_25 : decode cL_isGain 25 = .ok (.iconst 4, 1) := by decide +kernel
theorem dL_isGain_26 : decode cL_isGain 26 = .ok (.iload 10, 2) := by decide +kernel
theorem dL_isGain_28 : decode cL_isGain 28 = .ok (.imul, 1) := by decide +kernel
theorem dL_isGain_29 : decode cL_isGain 29 = .ok (.iadd, 1) := by decide +kernel
theorem dL_isGain_30 : decode cL_isGain 30 = .ok (.iconst 1, 1) := by decide +kernel
theorem dL_isGain_31 : decode cL_isGain 31 = .ok (.iadd, 1) := by decide +kernel
theorem dL_isGain_32 : decode cL_isGain 32 = .ok (.iload 4, 2) := by decide +kernel
theorem dL_isGain_34 : decode cL_isGain 34 = .ok (.iadd, 1) := by decide +kernel
theorem dL_isGain_35 : decode cL_isGain 35 = .ok (.laload, 1) := by decide +kernel
theorem dL_isGain_36 : decode cL_isGain 36 = .ok (.lstore 11, 2) := by decide +kernel
theorem dL_isGain_38 : decode cL_isGain 38 = .ok (.lload 11, 2) := by decide +kernel
theorem dL_isGain_40 : decode cL_isGain 40 = .ok (.lload 6, 2) := by decide +kernel
theorem dL_isGain_42 : decode cL_isGain 42 = .ok (.lcmp, 1) := by decide +kernel
theorem dL_isGain_43 : decode cL_isGain 43 = .ok (.ifCond .ge 8, 3) := by decide +kernel
theorem dL_isGain_46 : decode cL_isGain 46 = .ok (.lload 11, 2) := by decide +kernel
theorem dL_isGain_48 : decode cL_isGain 48 = .ok (.goto 5, 3) := by decide +kernel
theorem dL_isGain_51 : decode cL_isGain 51 = .ok (.lload 6, 2) := by decide +kernel
theorem dL_isGain_53 : decode cL_isGain 53 = .ok (.lstore 6, 2) := by decide +kernel
theorem dL_isGain_55 : decode cL_isGain 55 = .ok (.lload 11, 2) := by decide +kernel
theorem dL_isGain_57 : decode cL_isGain 57 = .ok (.lload 8, 2) := by decide +kernel
theorem dL_isGain_59 : decode cL_isGain 59 = .ok (.lcmp, 1) := by decide +kernel
theorem dL_isGain_60 : decode cL_isGain 60 = .ok (.ifCond .le 8, 3) := by decide +kernel
theorem dL_isGain_63 : decode cL_isGain 63 = .ok (.lload 11, 2) := by decide +kernel
theorem dL_isGain_65 : decode cL_isGain 65 = .ok (.goto 5, 3) := by decide +kernel
theorem dL_isGain_68 : decode cL_isGain 68 = .ok (.lload 8, 2) := by decide +kernel
theorem dL_isGain_70 : decode cL_isGain 70 = .ok (.lstore 8, 2) := by decide +kernel
theorem dL_isGain_72 : decode cL_isGain 72 = .ok (.iinc 10 1, 3) := by decide +kernel
theorem dL_isGain_75 : decode cL_isGain 75 = .ok (.goto (-62), 3) := by decide +kernel
theorem dL_isGain_78 : decode cL_isGain 78 = .ok (.iload 5, 2) := by decide +kernel
theorem dL_isGain_80 : decode cL_isGain 80 = .ok (.ifCond .eq 17, 3) := by decide +kernel
theorem dL_isGain_83 : decode cL_isGain 83 = .ok (.lload_n 0, 1) := by decide +kernel
theorem dL_isGain_84 : decode cL_isGain 84 = .ok (.lload 6, 2) := by decide +kernel
theorem dL_isGain_86 : decode cL_isGain 86 = .ok (.lcmp, 1) := by decide +kernel
theorem dL_isGain_87 : decode cL_isGain 87 = .ok (.ifCond .lt 14, 3) := by decide +kernel
theorem dL_isGain_90 : decode cL_isGain 90 = .ok (.lload_n 0, 1) := by decide +kernel
theorem dL_isGain_91 : decode cL_isGain 91 = .ok (.lload 8, 2) := by decide +kernel
theorem dL_isGain_93 : decode cL_isGain 93 = .ok (.lcmp, 1) := by decide +kernel
theorem dL_isGain_94 : decode cL_isGain 94 = .ok (.ifCond .gt 7, 3) := by decide +kernel
theorem dL_isGain_97 : decode cL_isGain 97 = .ok (.iconst 1, 1) := by decide +kernel
theorem dL_isGain_98 : decode cL_isGain 98 = .ok (.goto 4, 3) := by decide +kernel
theorem dL_isGain_101 : decode cL_isGain 101 = .ok (.iconst 0, 1) := by decide +kernel
theorem dL_isGain_102 : decode cL_isGain 102 = .ok (.ireturn, 1) := by decide +kernel
theorem dL_samples_0 : decode cL_samples 0 = .ok (.iconst 3, 1) := by decide +kernel
theorem dL_samples_1 : decode cL_samples 1 = .ok (.newarray .int, 2) := by decide +kernel
theorem dL_samples_3 : decode cL_samples 3 = .ok (.astore 6, 2) := by decide +kernel
theorem dL_samples_5 : decode cL_samples 5 = .ok (.iconst 3, 1) := by decide +kernel
theorem dL_samples_6 : decode cL_samples 6 = .ok (.newarray .int, 2) := by decide +kernel
theorem dL_samples_8 : decode cL_samples 8 = .ok (.astore 7, 2) := by decide +kernel
theorem dL_samples_10 : decode cL_samples 10 = .ok (.iconst 3, 1) := by decide +kernel
theorem dL_samples_11 : decode cL_samples 11 = .ok (.newarray .int, 2) := by decide +kernel
theorem dL_samples_13 : decode cL_samples 13 = .ok (.astore 8, 2) := by decide +kernel
theorem dL_samples_15 : decode cL_samples 15 = .ok (.iconst 3, 1) := by decide +kernel
theorem dL_samples_16 : decode cL_samples 16 = .ok (.newarray .long, 2) := by decide +kernel
theorem dL_samples_18 : decode cL_samples 18 = .ok (.astore 9, 2) := by decide +kernel
theorem dL_samples_20 : decode cL_samples 20 = .ok (.iconst 3, 1) := by decide +kernel
theorem dL_samples_21 : decode cL_samples 21 = .ok (.newarray .long, 2) := by decide +kernel
theorem dL_samples_23 : decode cL_samples 23 = .ok (.astore 10, 2) := by decide +kernel
theorem dL_samples_25 : decode cL_samples 25 = .ok (.iconst 0, 1) := by decide +kernel
theorem dL_samples_26 : decode cL_samples 26 = .ok (.istore 11, 2) := by decide +kernel
theorem dL_samples_28 : decode cL_samples 28 = .ok (.iload 11, 2) := by decide +kernel
theorem dL_samples_30 : decode cL_samples 30 = .ok (.iconst 3, 1) := by decide +kernel
theorem dL_samples_31 : decode cL_samples 31 = .ok (.if_icmp .ge 64, 3) := by decide +kernel
theorem dL_samples_34 : decode cL_samples 34 = .ok (.aload 6, 2) := by decide +kernel
theorem dL_samples_36 : decode cL_samples 36 = .ok (.iload 11, 2) := by decide +kernel
theorem dL_samples_38 : decode cL_samples 38 = .ok (.aload_n 0, 1) := by decide +kernel
theorem dL_samples_39 : decode cL_samples 39 = .ok (.iload 11, 2) := by decide +kernel
theorem dL_samples_41 : decode cL_samples 41 = .ok (.invokevirtual 30, 3) := by decide +kernel
theorem dL_samples_44 : decode cL_samples 44 = .ok (.iastore, 1) := by decide +kernel
theorem dL_samples_45 : decode cL_samples 45 = .ok (.aload 7, 2) := by decide +kernel
theorem dL_samples_47 : decode cL_samples 47 = .ok (.iload 11, 2) := by decide +kernel
theorem dL_samples_49 : decode cL_samples 49 = .ok (.aload_n 0, 1) := by decide +kernel
theorem dL_samples_50 : decode cL_samples 50 = .ok (.iload 11, 2) := by decide +kernel
theorem dL_samples_52 : decode cL_samples 52 = .ok (.invokevirtual 36, 3) := by decide +kernel
theorem dL_samples_55 : decode cL_samples 55 = .ok (.iastore, 1) := by decide +kernel
theorem dL_samples_56 : decode cL_samples 56 = .ok (.aload 8, 2) := by decide +kernel
theorem dL_samples_58 : decode cL_samples 58 = .ok (.iload 11, 2) := by decide +kernel
theorem dL_samples_60 : decode cL_samples 60 = .ok (.aload_n 0, 1) := by decide +kernel
theorem dL_samples_61 : decode cL_samples 61 = .ok (.iload 11, 2) := by decide +kernel
theorem dL_samples_63 : decode cL_samples 63 = .ok (.invokevirtual 39, 3) := by decide +kernel
theorem dL_samples_66 : decode cL_samples 66 = .ok (.iastore, 1) := by decide +kernel
theorem dL_samples_67 : decode cL_samples 67 = .ok (.aload 9, 2) := by decide +kernel
theorem dL_samples_69 : decode cL_samples 69 = .ok (.iload 11, 2) := by decide +kernel
theorem dL_samples_71 : decode cL_samples 71 = .ok (.aload_n 0, 1) := by decide +kernel
theorem dL_samples_72 : decode cL_samples 72 = .ok (.iload 11, 2) := by decide +kernel
theorem dL_samples_74 : decode cL_samples 74 = .ok (.invokevirtual 42, 3) := by decide +kernel
theorem dL_samples_77 : decode cL_samples 77 = .ok (.lastore, 1) := by decide +kernel
theorem dL_samples_78 : decode cL_samples 78 = .ok (.aload 10, 2) := by decide +kernel
theorem dL_samples_80 : decode cL_samples 80 = .ok (.iload 11, 2) := by decide +kernel
theorem dL_samples_82 : decode cL_samples 82 = .ok (.aload_n 0, 1) := by decide +kernel
theorem dL_samples_83 : decode cL_samples 83 = .ok (.iload 11, 2) := by decide +kernel
theorem dL_samples_85 : decode cL_samples 85 = .ok (.invokevirtual 46, 3) := by decide +kernel
theorem dL_samples_88 : decode cL_samples 88 = .ok (.lastore, 1) := by decide +kernel
theorem dL_samples_89 : decode cL_samples 89 = .ok (.iinc 11 1, 3) := by decide +kernel
theorem dL_samples_92 : decode cL_samples 92 = .ok (.goto (-64), 3) := by decide +kernel
theorem dL_samples_95 : decode cL_samples 95 = .ok (.aload_n 0, 1) := by decide +kernel
theorem dL_samples_96 : decode cL_samples 96 = .ok (.iconst 1, 1) := by decide +kernel
theorem dL_samples_97 : decode cL_samples 97 = .ok (.invokevirtual 49, 3) := by decide +kernel
theorem dL_samples_100 : decode cL_samples 100 = .ok (.iload 5, 2) := by decide +kernel
theorem dL_samples_102 : decode cL_samples 102 = .ok (.iconst 1, 1) := by decide +kernel
theorem dL_samples_103 : decode cL_samples 103 = .ok (.iadd, 1) := by decide +kernel
theorem dL_samples_104 : decode cL_samples 104 = .ok (.if_icmp .ne 7, 3) := by decide +kernel
theorem dL_samples_107 : decode cL_samples 107 = .ok (.iconst 1, 1) := by decide +kernel
theorem dL_samples_108 : decode cL_samples 108 = .ok (.goto 4, 3) := by decide +kernel
theorem dL_samples_111 : decode cL_samples 111 = .ok (.iconst 0, 1) := by decide +kernel
theorem dL_samples_112 : decode cL_samples 112 = .ok (.istore 11, 2) := by decide +kernel
theorem dL_samples_114 : decode cL_samples 114 = .ok (.iconst 0, 1) := by decide +kernel
theorem dL_samples_115 : decode cL_samples 115 = .ok (.istore 12, 2) := by decide +kernel
theorem dL_samples_117 : decode cL_samples 117 = .ok (.iload 12, 2) := by decide +kernel
theorem dL_samples_119 : decode cL_samples 119 = .ok (.iconst 3, 1) := by decide +kernel
theorem dL_samples_120 : decode cL_samples 120 = .ok (.if_icmp .ge 645, 3) := by decide +kernel
theorem dL_samples_123 : decode cL_samples 123 = .ok (.iload 11, 2) := by decide +kernel
theorem dL_samples_125 : decode cL_samples 125 = .ok (.ifCond .eq 640, 3) := by decide +kernel
theorem dL_samples_128 : decode cL_samples 128 = .ok (.bipush 20, 2) := by decide +kernel
theorem dL_samples_130 : decode cL_samples 130 = .ok (.iload 12, 2) := by decide +kernel
theorem dL_samples_132 : decode cL_samples 132 = .ok (.imul, 1) := by decide +kernel
theorem dL_samples_133 : decode cL_samples 133 = .ok (.istore 13, 2) := by decide +kernel
theorem dL_samples_135 : decode cL_samples 135 = .ok (.aload_n 1, 1) := by decide +kernel
theorem dL_samples_136 : decode cL_samples 136 = .ok (.iload 13, 2) := by decide +kernel
theorem dL_samples_138 : decode cL_samples 138 = .ok (.iconst 5, 1) := by decide +kernel
theorem dL_samples_139 : decode cL_samples 139 = .ok (.iadd, 1) := by decide +kernel
theorem dL_samples_140 : decode cL_samples 140 = .ok (.laload, 1) := by decide +kernel
theorem dL_samples_141 : decode cL_samples 141 = .ok (.lstore 14, 2) := by decide +kernel
theorem dL_samples_143 : decode cL_samples 143 = .ok (.aload_n 1, 1) := by decide +kernel
theorem dL_samples_144 : decode cL_samples 144 = .ok (.iload 13, 2) := by decide +kernel
theorem dL_samples_146 : decode cL_samples 146 = .ok (.bipush 6, 2) := by decide +kernel
theorem dL_samples_148 : decode cL_samples 148 = .ok (.iadd, 1) := by decide +kernel
theorem dL_samples_149 : decode cL_samples 149 = .ok (.laload, 1) := by decide +kernel
theorem dL_samples_150 : decode cL_samples 150 = .ok (.lstore 16, 2) := by decide +kernel
theorem dL_samples_152 : decode cL_samples 152 = .ok (.aload_n 0, 1) := by decide +kernel
theorem dL_samples_153 : decode cL_samples 153 = .ok (.iload 12, 2) := by decide +kernel
theorem dL_samples_155 : decode cL_samples 155 = .ok (.invokevirtual 52, 3) := by decide +kernel
theorem dL_samples_158 : decode cL_samples 158 = .ok (.lstore 18, 2) := by decide +kernel
theorem dL_samples_160 : decode cL_samples 160 = .ok (.aload 6, 2) := by decide +kernel
theorem dL_samples_162 : decode cL_samples 162 = .ok (.iload 12, 2) := by decide +kernel
theorem dL_samples_164 : decode cL_samples 164 = .ok (.iaload, 1) := by decide +kernel
theorem dL_samples_165 : decode cL_samples 165 = .ok (.iconst 1, 1) := by decide +kernel
theorem dL_samples_166 : decode cL_samples 166 = .ok (.if_icmp .eq 12, 3) := by decide +kernel
theorem dL_samples_169 : decode cL_samples 169 = .ok (.aload 6, 2) := by decide +kernel
theorem dL_samples_171 : decode cL_samples 171 = .ok (.iload 12, 2) := by decide +kernel
theorem dL_samples_173 : decode cL_samples 173 = .ok (.iaload, 1) := by decide +kernel
theorem dL_samples_174 : decode cL_samples 174 = .ok (.iconst 2, 1) := by decide +kernel
theorem dL_samples_175 : decode cL_samples 175 = .ok (.if_icmp .ne 36, 3) := by decide +kernel
theorem dL_samples_178 : decode cL_samples 178 = .ok (.iload 12, 2) := by decide +kernel
theorem dL_samples_180 : decode cL_samples 180 = .ok (.iconst 2, 1) := by decide +kernel
theorem dL_samples_181 : decode cL_samples 181 = .ok (.if_icmp .ge 30, 3) := by decide +kernel
theorem dL_samples_184 : decode cL_samples 184 = .ok (.aload_n 1, 1) := by decide +kernel
theorem dL_samples_185 : decode cL_samples 185 = .ok (.iload 13, 2) := by decide +kernel
theorem dL_samples_187 : decode cL_samples 187 = .ok (.bipush 29, 2) := by decide +kernel
theorem dL_samples_189 : decode cL_samples 189 = .ok (.iadd, 1) := by decide +kernel
theorem dL_samples_190 : decode cL_samples 190 = .ok (.laload, 1) := by decide +kernel
theorem dL_samples_191 : decode cL_samples 191 = .ok (.lconst 1, 1) := by decide +kernel
theorem dL_samples_192 : decode cL_samples 192 = .ok (.lcmp, 1) := by decide +kernel
theorem dL_samples_193 : decode cL_samples 193 = .ok (.ifCond .ne 18, 3) := by decide +kernel
theorem dL_samples_196 : decode cL_samples 196 = .ok (.aload 6, 2) := by decide +kernel
theorem dL_samples_198 : decode cL_samples 198 = .ok (.iload 12, 2) := by decide +kernel
theorem dL_samples_200 : decode cL_samples 200 = .ok (.iconst 1, 1) := by decide +kernel
theorem dL_samples_201 : decode cL_samples 201 = .ok (.iadd, 1) := by decide +kernel
theorem dL_samples_202 : decode cL_samples 202 = .ok (.iaload, 1) := by decide +kernel
theorem dL_samples_203 : decode cL_samples 203 = .ok (.iconst 2, 1) := by decide +kernel
theorem dL_samples_204 : decode cL_samples 204 = .ok (.if_icmp .eq 7, 3) := by decide +kernel
theorem dL_samples_207 : decode cL_samples 207 = .ok (.iconst 1, 1) := by decide +kernel
theorem dL_samples_208 : decode cL_samples 208 = .ok (.goto 4, 3) := by decide +kernel
theorem dL_samples_211 : decode cL_samples 211 = .ok (.iconst 0, 1) := by decide +kernel
theorem dL_samples_212 : decode cL_samples 212 = .ok (.istore 20, 2) := by decide +kernel
theorem dL_samples_214 : decode cL_samples 214 = .ok (.aload 6, 2) := by decide +kernel
theorem dL_samples_216 : decode cL_samples 216 = .ok (.iload 12, 2) := by decide +kernel
theorem dL_samples_218 : decode cL_samples 218 = .ok (.iaload, 1) := by decide +kernel
theorem dL_samples_219 : decode cL_samples 219 = .ok (.iconst 2, 1) := by decide +kernel
theorem dL_samples_220 : decode cL_samples 220 = .ok (.if_icmp .ne 14, 3) := by decide +kernel
theorem dL_samples_223 : decode cL_samples 223 = .ok (.aload_n 0, 1) := by decide +kernel
theorem dL_samples_224 : decode cL_samples 224 = .ok (.iload 12, 2) := by decide +kernel
theorem dL_samples_226 : decode cL_samples 226 = .ok (.iconst 1, 1) := by decide +kernel
theorem dL_samples_227 : decode cL_samples 227 = .ok (.isub, 1) := by decide +kernel
theorem dL_samples_228 : decode cL_samples 228 = .ok (.invokevirtual 52, 3) := by decide +kernel
theorem dL_samples_231 : decode cL_samples 231 = .ok (.goto 36, 3) := by decide +kernel
theorem dL_samples_234 : decode cL_samples 234 = .ok (.aload 6, 2) := by decide +kernel
theorem dL_samples_236 : decode cL_samples 236 = .ok (.iload 12, 2) := by decide +kernel
theorem dL_samples_238 : decode cL_samples 238 = .ok (.iaload, 1) := by decide +kernel
theorem dL_samples_239 : decode cL_samples 239 = .ok (.ifCond .ne 23, 3) := by decide +kernel
theorem dL_samples_242 : decode cL_samples 242 = .ok (.aload_n 1, 1) := by decide +kernel
theorem dL_samples_243 : decode cL_samples 243 = .ok (.iload 13, 2) := by decide +kernel
theorem dL_samples_245 : decode cL_samples 245 = .ok (.bipush 8, 2) := by decide +kernel
theorem dL_samples_247 : decode cL_samples 247 = .ok (.iadd, 1) := by decide +kernel
theorem dL_samples_248 : decode cL_samples 248 = .ok (.laload, 1) := by decide +kernel
theorem dL_samples_249 : decode cL_samples 249 = .ok (.lconst 1, 1) := by decide +kernel
theorem dL_samples_250 : decode cL_samples 250 = .ok (.lcmp, 1) := by decide +kernel
theorem dL_samples_251 : decode cL_samples 251 = .ok (.ifCond .ne 11, 3) := by decide +kernel
theorem dL_samples_254 : decode cL_samples 254 = .ok (.aload 9, 2) := by decide +kernel
theorem dL_samples_256 : decode cL_samples 256 = .ok (.iload 12, 2) := by decide +kernel
theorem dL_samples_258 : decode cL_samples 258 = .ok (.laload, 1) := by decide +kernel
theorem dL_samples_259 : decode cL_samples 259 = .ok (.goto 8, 3) := by decide +kernel
theorem dL_samples_262 : decode cL_samples 262 = .ok (.aload 10, 2) := by decide +kernel
theorem dL_samples_264 : decode cL_samples 264 = .ok (.iload 12, 2) := by decide +kernel
theorem dL_samples_266 : decode cL_samples 266 = .ok (.laload, 1) := by decide +kernel
theorem dL_samples_267 : decode cL_samples 267 = .ok (.lstore 21, 2) := by decide +kernel
theorem dL_samples_269 : decode cL_samples 269 = .ok (.aload 6, 2) := by decide +kernel
theorem dL_samples_271 : decode cL_samples 271 = .ok (.iload 12, 2) := by decide +kernel
theorem dL_samples_273 : decode cL_samples 273 = .ok (.iaload, 1) := by decide +kernel
theorem dL_samples_274 : decode cL_samples 274 = .ok (.iconst 1, 1) := by decide +kernel
theorem dL_samples_275 : decode cL_samples 275 = .ok (.if_icmp .eq 12, 3) := by decide +kernel
theorem dL_samples_278 : decode cL_samples 278 = .ok (.aload 6, 2) := by decide +kernel
theorem dL_samples_280 : decode cL_samples 280 = .ok (.iload 12, 2) := by decide +kernel
theorem dL_samples_282 : decode cL_samples 282 = .ok (.iaload, 1) := by decide +kernel
theorem dL_samples_283 : decode cL_samples 283 = .ok (.iconst 2, 1) := by decide +kernel
theorem dL_samples_284 : decode cL_samples 284 = .ok (.if_icmp .ne 12, 3) := by decide +kernel
theorem dL_samples_287 : decode cL_samples 287 = .ok (.iload 20, 2) := by decide +kernel
theorem dL_samples_289 : decode cL_samples 289 = .ok (.ifCond .ne 7, 3) := by decide +kernel
theorem dL_samples_292 : decode cL_samples 292 = .ok (.iconst 1, 1) := by decide +kernel
theorem dL_samples_293 : decode cL_samples 293 = .ok (.goto 4, 3) := by decide +kernel
theorem dL_samples_296 : decode cL_samples 296 = .ok (.iconst 0, 1) := by decide +kernel
theorem dL_samples_297 : decode cL_samples 297 = .ok (.istore 23, 2) := by decide +kernel
theorem dL_samples_299 : decode cL_samples 299 = .ok (.lload 18, 2) := by decide +kernel
theorem dL_samples_301 : decode cL_samples 301 = .ok (.lload 14, 2) := by decide +kernel
theorem dL_samples_303 : decode cL_samples 303 = .ok (.lcmp, 1) := by decide +kernel
theorem dL_samples_304 : decode cL_samples 304 = .ok (.ifCond .lt 91, 3) := by decide +kernel
theorem dL_samples_307 : decode cL_samples 307 = .ok (.lload 18, 2) := by decide +kernel
theorem dL_samples_309 : decode cL_samples 309 = .ok (.lload 16, 2) := by decide +kernel
theorem dL_samples_311 : decode cL_samples 311 = .ok (.lcmp, 1) := by decide +kernel
theorem dL_samples_312 : decode cL_samples 312 = .ok (.ifCond .gt 83, 3) := by decide +kernel
theorem dL_samples_315 : decode cL_samples 315 = .ok (.aload_n 0, 1) := by decide +kernel
theorem dL_samples_316 : decode cL_samples 316 = .ok (.iload 12, 2) := by decide +kernel
theorem dL_samples_318 : decode cL_samples 318 = .ok (.invokevirtual 55, 3) := by decide +kernel
theorem dL_samples_321 : decode cL_samples 321 = .ok (.iload 20, 2) := by decide +kernel
theorem dL_samples_323 : decode cL_samples 323 = .ok (.if_icmp .ne 72, 3) := by decide +kernel
theorem dL_samples_326 : decode cL_samples 326 = .ok (.aload_n 0, 1) := by decide +kernel
theorem dL_samples_327 : decode cL_samples 327 = .ok (.iload 12, 2) := by decide +kernel
theorem dL_samples_329 : decode cL_samples 329 = .ok (.invokevirtual 46, 3) := by decide +kernel
theorem dL_samples_332 : decode cL_samples 332 = .ok (.lload 21, 2) := by decide +kernel
theorem dL_samples_334 : decode cL_samples 334 = .ok (.lcmp, 1) := by decide +kernel
theorem dL_samples_335 : decode cL_samples 335 = .ok (.ifCond .ne 60, 3) := by decide +kernel
theorem dL_samples_338 : decode cL_samples 338 = .ok (.aload_n 0, 1) := by decide +kernel
theorem dL_samples_339 : decode cL_samples 339 = .ok (.iload 12, 2) := by decide +kernel
theorem dL_samples_341 : decode cL_samples 341 = .ok (.invokevirtual 36, 3) := by decide +kernel
theorem dL_samples_344 : decode cL_samples 344 = .ok (.aload 7, 2) := by decide +kernel
theorem dL_samples_346 : decode cL_samples 346 = .ok (.iload 12, 2) := by decide +kernel
theorem dL_samples_348 : decode cL_samples 348 = .ok (.iaload, 1) := by decide +kernel
theorem dL_samples_349 : decode cL_samples 349 = .ok (.isub, 1) := by decide +kernel
theorem dL_samples_350 : decode cL_samples 350 = .ok (.ifCond .lt 45, 3) := by decide +kernel
theorem dL_samples_353 : decode cL_samples 353 = .ok (.iload 23, 2) := by decide +kernel
theorem dL_samples_355 : decode cL_samples 355 = .ok (.ifCond .eq 22, 3) := by decide +kernel
theorem dL_samples_358 : decode cL_samples 358 = .ok (.aload_n 0, 1) := by decide +kernel
theorem dL_samples_359 : decode cL_samples 359 = .ok (.iload 12, 2) := by decide +kernel
theorem dL_samples_361 : decode cL_samples 361 = .ok (.invokevirtual 36, 3) := by decide +kernel
theorem dL_samples_364 : decode cL_samples 364 = .ok (.aload 7, 2) := by decide +kernel
theorem dL_samples_366 : decode cL_samples 366 = .ok (.iload 12, 2) := by decide +kernel
theorem dL_samples_368 : decode cL_samples 368 = .ok (.iaload, 1) := by decide +kernel
theorem dL_samples_369 : decode cL_samples 369 = .ok (.isub, 1) := by decide +kernel
theorem dL_samples_370 : decode cL_samples 370 = .ok (.iconst 1, 1) := by decide +kernel
theorem dL_samples_371 : decode cL_samples 371 = .ok (.if_icmp .gt 24, 3) := by decide +kernel
theorem dL_samples_374 : decode cL_samples 374 = .ok (.goto 17, 3) := by decide +kernel
theorem dL_samples_377 : decode cL_samples 377 = .ok (.aload_n 0, 1) := by decide +kernel
theorem dL_samples_378 : decode cL_samples 378 = .ok (.iload 12, 2) := by decide +kernel
theorem dL_samples_380 : decode cL_samples 380 = .ok (.invokevirtual 36, 3) := by decide +kernel
theorem dL_samples_383 : decode cL_samples 383 = .ok (.aload 7, 2) := by decide +kernel
theorem dL_samples_385 : decode cL_samples 385 = .ok (.iload 12, 2) := by decide +kernel
theorem dL_samples_387 : decode cL_samples 387 = .ok (.iaload, 1) := by decide +kernel
theorem dL_samples_388 : decode cL_samples 388 = .ok (.if_icmp .ne 7, 3) := by decide +kernel
theorem dL_samples_391 : decode cL_samples 391 = .ok (.iconst 1, 1) := by decide +kernel
theorem dL_samples_392 : decode cL_samples 392 = .ok (.goto 4, 3) := by decide +kernel
theorem dL_samples_395 : decode cL_samples 395 = .ok (.iconst 0, 1) := by decide +kernel
theorem dL_samples_396 : decode cL_samples 396 = .ok (.istore 11, 2) := by decide +kernel
theorem dL_samples_398 : decode cL_samples 398 = .ok (.iload 11, 2) := by decide +kernel
theorem dL_samples_400 : decode cL_samples 400 = .ok (.ifCond .eq 60, 3) := by decide +kernel
theorem dL_samples_403 : decode cL_samples 403 = .ok (.aload 6, 2) := by decide +kernel
theorem dL_samples_405 : decode cL_samples 405 = .ok (.iload 12, 2) := by decide +kernel
theorem dL_samples_407 : decode cL_samples 407 = .ok (.iaload, 1) := by decide +kernel
theorem dL_samples_408 : decode cL_samples 408 = .ok (.ifCond .ne 23, 3) := by decide +kernel
theorem dL_samples_411 : decode cL_samples 411 = .ok (.lload 18, 2) := by decide +kernel
theorem dL_samples_413 : decode cL_samples 413 = .ok (.aload_n 1, 1) := by decide +kernel
theorem dL_samples_414 : decode cL_samples 414 = .ok (.iload 13, 2) := by decide +kernel
theorem dL_samples_416 : decode cL_samples 416 = .ok (.bipush 7, 2) := by decide +kernel
theorem dL_samples_418 : decode cL_samples 418 = .ok (.iadd, 1) := by decide +kernel
theorem dL_samples_419 : decode cL_samples 419 = .ok (.laload, 1) := by decide +kernel
theorem dL_samples_420 : decode cL_samples 420 = .ok (.lload 14, 2) := by decide +kernel
theorem dL_samples_422 : decode cL_samples 422 = .ok (.lload 16, 2) := by decide +kernel
theorem dL_samples_424 : decode cL_samples 424 = .ok (.invokestatic 22, 3) := by decide +kernel
theorem dL_samples_427 : decode cL_samples 427 = .ok (.lcmp, 1) := by decide +kernel
theorem dL_samples_428 : decode cL_samples 428 = .ok (.ifCond .ne 32, 3) := by decide +kernel
theorem dL_samples_431 : decode cL_samples 431 = .ok (.iload 20, 2) := by decide +kernel
theorem dL_samples_433 : decode cL_samples 433 = .ok (.ifCond .eq 23, 3) := by decide +kernel
theorem dL_samples_436 : decode cL_samples 436 = .ok (.lload 18, 2) := by decide +kernel
theorem dL_samples_438 : decode cL_samples 438 = .ok (.aload 10, 2) := by decide +kernel
theorem dL_samples_440 : decode cL_samples 440 = .ok (.iload 12, 2) := by decide +kernel
theorem dL_samples_442 : decode cL_samples 442 = .ok (.iconst 1, 1) := by decide +kernel
theorem dL_samples_443 : decode cL_samples 443 = .ok (.iadd, 1) := by decide +kernel
theorem dL_samples_444 : decode cL_samples 444 = .ok (.laload, 1) := by decide +kernel
theorem dL_samples_445 : decode cL_samples 445 = .ok (.lload 14, 2) := by decide +kernel
theorem dL_samples_447 : decode cL_samples 447 = .ok (.lload 16, 2) := by decide +kernel
theorem dL_samples_449 : decode cL_samples 449 = .ok (.invokestatic 22, 3) := by decide +kernel
theorem dL_samples_452 : decode cL_samples 452 = .ok (.lcmp, 1) := by decide +kernel
theorem dL_samples_453 : decode cL_samples 453 = .ok (.ifCond .ne 7, 3) := by decide +kernel
theorem dL_samples_456 : decode cL_samples 456 = .ok (.iconst 1, 1) := by decide +kernel
theorem dL_samples_457 : decode cL_samples 457 = .ok (.goto 4, 3) := by decide +kernel
theorem dL_samples_460 : decode cL_samples 460 = .ok (.iconst 0, 1) := by decide +kernel
theorem dL_samples_461 : decode cL_samples 461 = .ok (.istore 11, 2) := by decide +kernel
theorem dL_samples_463 : decode cL_samples 463 = .ok (.aload 6, 2) := by decide +kernel
theorem dL_samples_465 : decode cL_samples 465 = .ok (.iload 12, 2) := by decide +kernel
theorem dL_samples_467 : decode cL_samples 467 = .ok (.iaload, 1) := by decide +kernel
theorem dL_samples_468 : decode cL_samples 468 = .ok (.iconst 3, 1) := by decide +kernel
theorem dL_samples_469 : decode cL_samples 469 = .ok (.if_icmp .ne 42, 3) := by decide +kernel
theorem dL_samples_472 : decode cL_samples 472 = .ok (.iload 11, 2) := by decide +kernel
theorem dL_samples_474 : decode cL_samples 474 = .ok (.ifCond .eq 31, 3) := by decide +kernel
theorem dL_samples_477 : decode cL_samples 477 = .ok (.aload_n 0, 1) := by decide +kernel
theorem dL_samples_478 : decode cL_samples 478 = .ok (.aload_n 1, 1) := by decide +kernel
theorem dL_samples_479 : decode cL_samples 479 = .ok (.iload 12, 2) := by decide +kernel
theorem dL_samples_481 : decode cL_samples 481 = .ok (.lload 18, 2) := by decide +kernel
theorem dL_samples_483 : decode cL_samples 483 = .ok (.aload 9, 2) := by decide +kernel
theorem dL_samples_485 : decode cL_samples 485 = .ok (.iload 12, 2) := by decide +kernel
theorem dL_samples_487 : decode cL_samples 487 = .ok (.laload, 1) := by decide +kernel
theorem dL_samples_488 : decode cL_samples 488 = .ok (.aload 10, 2) := by decide +kernel
theorem dL_samples_490 : decode cL_samples 490 = .ok (.iload 12, 2) := by decide +kernel
theorem dL_samples_492 : decode cL_samples 492 = .ok (.laload, 1) := by decide +kernel
theorem dL_samples_493 : decode cL_samples 493 = .ok (.aload 4, 2) := by decide +kernel
theorem dL_samples_495 : decode cL_samples 495 = .ok (.invokestatic 59, 3) := by decide +kernel
theorem dL_samples_498 : decode cL_samples 498 = .ok (.ifCond .eq 7, 3) := by decide +kernel
theorem dL_samples_501 : decode cL_samples 501 = .ok (.iconst 1, 1) := by decide +kernel
theorem dL_samples_502 : decode cL_samples 502 = .ok (.goto 4, 3) := by decide +kernel
theorem dL_samples_505 : decode cL_samples 505 = .ok (.iconst 0, 1) := by decide +kernel
theorem dL_samples_506 : decode cL_samples 506 = .ok (.istore 11, 2) := by decide +kernel
theorem dL_samples_508 : decode cL_samples 508 = .ok (.goto 43, 3) := by decide +kernel
theorem dL_samples_511 : decode cL_samples 511 = .ok (.iload 11, 2) := by decide +kernel
theorem dL_samples_513 : decode cL_samples 513 = .ok (.ifCond .eq 35, 3) := by decide +kernel
theorem dL_samples_516 : decode cL_samples 516 = .ok (.aload_n 0, 1) := by decide +kernel
theorem dL_samples_517 : decode cL_samples 517 = .ok (.iload 12, 2) := by decide +kernel
theorem dL_samples_519 : decode cL_samples 519 = .ok (.invokevirtual 30, 3) := by decide +kernel
theorem dL_samples_522 : decode cL_samples 522 = .ok (.aload 6, 2) := by decide +kernel
theorem dL_samples_524 : decode cL_samples 524 = .ok (.iload 12, 2) := by decide +kernel
theorem dL_samples_526 : decode cL_samples 526 = .ok (.iaload, 1) := by decide +kernel
theorem dL_samples_527 : decode cL_samples 527 = .ok (.if_icmp .ne 21, 3) := by decide +kernel
theorem dL_samples_530 : decode cL_samples 530 = .ok (.aload_n 0, 1) := by decide +kernel
theorem dL_samples_531 : decode cL_samples 531 = .ok (.iload 12, 2) := by decide +kernel
theorem dL_samples_533 : decode cL_samples 533 = .ok (.invokevirtual 39, 3) := by decide +kernel
theorem dL_samples_536 : decode cL_samples 536 = .ok (.aload 8, 2) := by decide +kernel
theorem dL_samples_538 : decode cL_samples 538 = .ok (.iload 12, 2) := by decide +kernel
theorem dL_samples_540 : decode cL_samples 540 = .ok (.iaload, 1) := by decide +kernel
theorem dL_samples_541 : decode cL_samples 541 = .ok (.if_icmp .ne 7, 3) := by decide +kernel
theorem dL_samples_544 : decode cL_samples 544 = .ok (.iconst 1, 1) := by decide +kernel
theorem dL_samples_545 : decode cL_samples 545 = .ok (.goto 4, 3) := by decide +kernel
theorem dL_samples_548 : decode cL_samples 548 = .ok (.iconst 0, 1) := by decide +kernel
theorem dL_samples_549 : decode cL_samples 549 = .ok (.istore 11, 2) := by decide +kernel
theorem dL_samples_551 : decode cL_samples 551 = .ok (.iload 23, 2) := by decide +kernel
theorem dL_samples_553 : decode cL_samples 553 = .ok (.ifCond .eq 84, 3) := by decide +kernel
theorem dL_samples_556 : decode cL_samples 556 = .ok (.aload_n 1, 1) := by decide +kernel
theorem dL_samples_557 : decode cL_samples 557 = .ok (.iload 13, 2) := by decide +kernel
theorem dL_samples_559 : decode cL_samples 559 = .ok (.bipush 15, 2) := by decide +kernel
theorem dL_samples_561 : decode cL_samples 561 = .ok (.iadd, 1) := by decide +kernel
theorem dL_samples_562 : decode cL_samples 562 = .ok (.aload 6, 2) := by decide +kernel
theorem dL_samples_564 : decode cL_samples 564 = .ok (.iload 12, 2) := by decide +kernel
theorem dL_samples_566 : decode cL_samples 566 = .ok (.iaload, 1) := by decide +kernel
theorem dL_samples_567 : decode cL_samples 567 = .ok (.iconst 1, 1) := by decide +kernel
theorem dL_samples_568 : decode cL_samples 568 = .ok (.if_icmp .ne 13, 3) := by decide +kernel
theorem dL_samples_571 : decode cL_samples 571 = .ok (.aload_n 1, 1) := by decide +kernel
theorem dL_samples_572 : decode cL_samples 572 = .ok (.iload 13, 2) := by decide +kernel
theorem dL_samples_574 : decode cL_samples 574 = .ok (.bipush 15, 2) := by decide +kernel
theorem dL_samples_576 : decode cL_samples 576 = .ok (.iadd, 1) := by decide +kernel
theorem dL_samples_577 : decode cL_samples 577 = .ok (.laload, 1) := by decide +kernel
theorem dL_samples_578 : decode cL_samples 578 = .ok (.goto 4, 3) := by decide +kernel
theorem dL_samples_581 : decode cL_samples 581 = .ok (.lconst 0, 1) := by decide +kernel
theorem dL_samples_582 : decode cL_samples 582 = .ok (.lastore, 1) := by decide +kernel
theorem dL_samples_583 : decode cL_samples 583 = .ok (.iload 11, 2) := by decide +kernel
theorem dL_samples_585 : decode cL_samples 585 = .ok (.ifCond .eq 49, 3) := by decide +kernel
theorem dL_samples_588 : decode cL_samples 588 = .ok (.aload_n 0, 1) := by decide +kernel
theorem dL_samples_589 : decode cL_samples 589 = .ok (.aload_n 1, 1) := by decide +kernel
theorem dL_samples_590 : decode cL_samples 590 = .ok (.aload_n 3, 1) := by decide +kernel
theorem dL_samples_591 : decode cL_samples 591 = .ok (.aload 4, 2) := by decide +kernel
theorem dL_samples_593 : decode cL_samples 593 = .ok (.iload 12, 2) := by decide +kernel
theorem dL_samples_595 : decode cL_samples 595 = .ok (.lload 21, 2) := by decide +kernel
theorem dL_samples_597 : decode cL_samples 597 = .ok (.aload 9, 2) := by decide +kernel
theorem dL_samples_599 : decode cL_samples 599 = .ok (.iload 12, 2) := by decide +kernel
theorem dL_samples_601 : decode cL_samples 601 = .ok (.laload, 1) := by decide +kernel
theorem dL_samples_602 : decode cL_samples 602 = .ok (.lsub, 1) := by decide +kernel
theorem dL_samples_603 : decode cL_samples 603 = .ok (.lload 18, 2) := by decide +kernel
theorem dL_samples_605 : decode cL_samples 605 = .ok (.aload_n 0, 1) := by decide +kernel
theorem dL_samples_606 : decode cL_samples 606 = .ok (.iload 12, 2) := by decide +kernel
theorem dL_samples_608 : decode cL_samples 608 = .ok (.invokevirtual 36, 3) := by decide +kernel
theorem dL_samples_611 : decode cL_samples 611 = .ok (.aload 7, 2) := by decide +kernel
theorem dL_samples_613 : decode cL_samples 613 = .ok (.iload 12, 2) := by decide +kernel
theorem dL_samples_615 : decode cL_samples 615 = .ok (.iaload, 1) := by decide +kernel
theorem dL_samples_616 : decode cL_samples 616 = .ok (.if_icmp .ne 7, 3) := by decide +kernel
theorem dL_samples_619 : decode cL_samples 619 = .ok (.iconst 1, 1) := by decide +kernel
theorem dL_samples_620 : decode cL_samples 620 = .ok (.goto 4, 3) := by decide +kernel
theorem dL_samples_623 : decode cL_samples 623 = .ok (.iconst 0, 1) := by decide +kernel
theorem dL_samples_624 : decode cL_samples 624 = .ok (.invokestatic 63, 3) := by decide +kernel
theorem dL_samples_627 : decode cL_samples 627 = .ok (.ifCond .eq 7, 3) := by decide +kernel
theorem dL_samples_630 : decode cL_samples 630 = .ok (.iconst 1, 1) := by decide +kernel
theorem dL_samples_631 : decode cL_samples 631 = .ok (.goto 4, 3) := by decide +kernel
theorem dL_samples_634 : decode cL_samples 634 = .ok (.iconst 0, 1) := by decide +kernel
theorem dL_samples_635 : decode cL_samples 635 = .ok (.istore 11, 2) := by decide +kernel
theorem dL_samples_637 : decode cL_samples 637 = .ok (.aload_n 1, 1) := by decide +kernel
theorem dL_samples_638 : decode cL_samples 638 = .ok (.iload 13, 2) := by decide +kernel
theorem dL_samples_640 : decode cL_samples 640 = .ok (.bipush 14, 2) := by decide +kernel
theorem dL_samples_642 : decode cL_samples 642 = .ok (.iadd, 1) := by decide +kernel
theorem dL_samples_643 : decode cL_samples 643 = .ok (.iload 23, 2) := by decide +kernel
theorem dL_samples_645 : decode cL_samples 645 = .ok (.ifCond .eq 13, 3) := by decide +kernel
theorem dL_samples_648 : decode cL_samples 648 = .ok (.aload_n 1, 1) := by decide +kernel
theorem dL_samples_649 : decode cL_samples 649 = .ok (.iload 13, 2) := by decide +kernel
theorem dL_samples_651 : decode cL_samples 651 = .ok (.bipush 14, 2) := by decide +kernel
theorem dL_samples_653 : decode cL_samples 653 = .ok (.iadd, 1) := by decide +kernel
theorem dL_samples_654 : decode cL_samples 654 = .ok (.laload, 1) := by decide +kernel
theorem dL_samples_655 : decode cL_samples 655 = .ok (.goto 4, 3) := by decide +kernel
theorem dL_samples_658 : decode cL_samples 658 = .ok (.lconst 0, 1) := by decide +kernel
theorem dL_samples_659 : decode cL_samples 659 = .ok (.lastore, 1) := by decide +kernel
theorem dL_samples_660 : decode cL_samples 660 = .ok (.aload_n 1, 1) := by decide +kernel
theorem dL_samples_661 : decode cL_samples 661 = .ok (.iload 13, 2) := by decide +kernel
theorem dL_samples_663 : decode cL_samples 663 = .ok (.bipush 15, 2) := by decide +kernel
theorem dL_samples_665 : decode cL_samples 665 = .ok (.iadd, 1) := by decide +kernel
theorem dL_samples_666 : decode cL_samples 666 = .ok (.lconst 0, 1) := by decide +kernel
theorem dL_samples_667 : decode cL_samples 667 = .ok (.lastore, 1) := by decide +kernel
theorem dL_samples_668 : decode cL_samples 668 = .ok (.bipush 11, 2) := by decide +kernel
theorem dL_samples_670 : decode cL_samples 670 = .ok (.iload 12, 2) := by decide +kernel
theorem dL_samples_672 : decode cL_samples 672 = .ok (.imul, 1) := by decide +kernel
theorem dL_samples_673 : decode cL_samples 673 = .ok (.bipush 10, 2) := by decide +kernel
theorem dL_samples_675 : decode cL_samples 675 = .ok (.iadd, 1) := by decide +kernel
theorem dL_samples_676 : decode cL_samples 676 = .ok (.istore 24, 2) := by decide +kernel
theorem dL_samples_678 : decode cL_samples 678 = .ok (.iload 24, 2) := by decide +kernel
theorem dL_samples_680 : decode cL_samples 680 = .ok (.bipush 11, 2) := by decide +kernel
theorem dL_samples_682 : decode cL_samples 682 = .ok (.iload 12, 2) := by decide +kernel
theorem dL_samples_684 : decode cL_samples 684 = .ok (.imul, 1) := by decide +kernel
theorem dL_samples_685 : decode cL_samples 685 = .ok (.if_icmp .le 19, 3) := by decide +kernel
theorem dL_samples_688 : decode cL_samples 688 = .ok (.aload_n 2, 1) := by decide +kernel
theorem dL_samples_689 : decode cL_samples 689 = .ok (.iload 24, 2) := by decide +kernel
theorem dL_samples_691 : decode cL_samples 691 = .ok (.aload_n 2, 1) := by decide +kernel
theorem dL_samples_692 : decode cL_samples 692 = .ok (.iload 24, 2) := by decide +kernel
theorem dL_samples_694 : decode cL_samples 694 = .ok (.iconst 1, 1) := by decide +kernel
theorem dL_samples_695 : decode cL_samples 695 = .ok (.isub, 1) := by decide +kernel
theorem dL_samples_696 : decode cL_samples 696 = .ok (.laload, 1) := by decide +kernel
theorem dL_samples_697 : decode cL_samples 697 = .ok (.lastore, 1) := by decide +kernel
theorem dL_samples_698 : decode cL_samples 698 = .ok (.iinc 24 (-1), 3) := by decide +kernel
theorem dL_samples_701 : decode cL_samples 701 = .ok (.goto (-23), 3) := by decide +kernel
theorem dL_samples_704 : decode cL_samples 704 = .ok (.aload_n 2, 1) := by decide +kernel
theorem dL_samples_705 : decode cL_samples 705 = .ok (.bipush 11, 2) := by decide +kernel
theorem dL_samples_707 : decode cL_samples 707 = .ok (.iload 12, 2) := by decide +kernel
theorem dL_samples_709 : decode cL_samples 709 = .ok (.imul, 1) := by decide +kernel
theorem dL_samples_710 : decode cL_samples 710 = .ok (.lload 18, 2) := by decide +kernel
theorem dL_samples_712 : decode cL_samples 712 = .ok (.lastore, 1) := by decide +kernel
theorem dL_samples_713 : decode cL_samples 713 = .ok (.iload 11, 2) := by decide +kernel
theorem dL_samples_715 : decode cL_samples 715 = .ok (.ifCond .eq 29, 3) := by decide +kernel
theorem dL_samples_718 : decode cL_samples 718 = .ok (.aload_n 0, 1) := by decide +kernel
theorem dL_samples_719 : decode cL_samples 719 = .ok (.iload 12, 2) := by decide +kernel
theorem dL_samples_721 : decode cL_samples 721 = .ok (.invokevirtual 42, 3) := by decide +kernel
theorem dL_samples_724 : decode cL_samples 724 = .ok (.aload_n 1, 1) := by decide +kernel
theorem dL_samples_725 : decode cL_samples 725 = .ok (.aload_n 2, 1) := by decide +kernel
theorem dL_samples_726 : decode cL_samples 726 = .ok (.iload 12, 2) := by decide +kernel
theorem dL_samples_728 : decode cL_samples 728 = .ok (.aload 9, 2) := by decide +kernel
theorem dL_samples_730 : decode cL_samples 730 = .ok (.iload 12, 2) := by decide +kernel
theorem dL_samples_732 : decode cL_samples 732 = .ok (.laload, 1) := by decide +kernel
theorem dL_samples_733 : decode cL_samples 733 = .ok (.invokestatic 67, 3) := by decide +kernel
theorem dL_samples_736 : decode cL_samples 736 = .ok (.lcmp, 1) := by decide +kernel
theorem dL_samples_737 : decode cL_samples 737 = .ok (.ifCond .ne 7, 3) := by decide +kernel
theorem dL_samples_740 : decode cL_samples 740 = .ok (.iconst 1, 1) := by decide +kernel
theorem dL_samples_741 : decode cL_samples 741 = .ok (.goto 4, 3) := by decide +kernel
theorem dL_samples_744 : decode cL_samples 744 = .ok (.iconst 0, 1) := by decide +kernel
theorem dL_samples_745 : decode cL_samples 745 = .ok (.istore 11, 2) := by decide +kernel
theorem dL_samples_747 : decode cL_samples 747 = .ok (.aload_n 1, 1) := by decide +kernel
theorem dL_samples_748 : decode cL_samples 748 = .ok (.iload 13, 2) := by decide +kernel
theorem dL_samples_750 : decode cL_samples 750 = .ok (.bipush 10, 2) := by decide +kernel
theorem dL_samples_752 : decode cL_samples 752 = .ok (.iadd, 1) := by decide +kernel
theorem dL_samples_753 : decode cL_samples 753 = .ok (.aload 9, 2) := by decide +kernel
theorem dL_samples_755 : decode cL_samples 755 = .ok (.iload 12, 2) := by decide +kernel
theorem dL_samples_757 : decode cL_samples 757 = .ok (.laload, 1) := by decide +kernel
theorem dL_samples_758 : decode cL_samples 758 = .ok (.lastore, 1) := by decide +kernel
theorem dL_samples_759 : decode cL_samples 759 = .ok (.iinc 12 1, 3) := by decide +kernel
theorem dL_samples_762 : decode cL_samples 762 = .ok (.goto (-645), 3) := by decide +kernel
theorem dL_samples_765 : decode cL_samples 765 = .ok (.iload 11, 2) := by decide +kernel
theorem dL_samples_767 : decode cL_samples 767 = .ok (.ireturn, 1) := by decide +kernel
theorem dL_isSum_0 : decode cL_isSum 0 = .ok (.bipush 20, 2) := by decide +kernel
theorem dL_isSum_2 : decode cL_isSum 2 = .ok (.iload 4, 2) := by decide +kernel
theorem dL_isSum_4 : decode cL_isSum 4 = .ok (.imul, 1) := by decide +kernel
theorem dL_isSum_5 : decode cL_isSum 5 = .ok (.istore 10, 2) := by decide +kernel
theorem dL_isSum_7 : decode cL_isSum 7 = .ok (.aload_n 0, 1) := by decide +kernel
theorem dL_isSum_8 : decode cL_isSum 8 = .ok (.iload 4, 2) := by decide +kernel
theorem dL_isSum_10 : decode cL_isSum 10 = .ok (.iconst 0, 1) := by decide +kernel
theorem dL_isSum_11 : decode cL_isSum 11 = .ok (.invokevirtual 71, 3) := by decide +kernel
theorem dL_isSum_14 : decode cL_isSum 14 = .ok (.i2l, 1) := by decide +kernel
theorem dL_isSum_15 : decode cL_isSum 15 = .ok (.aload_n 2, 1) := by decide +kernel
theorem dL_isSum_16 : decode cL_isSum 16 = .ok (.iload 4, 2) := by decide +kernel
theorem dL_isSum_18 : decode cL_isSum 18 = .ok (.iconst 0, 1) := by decide +kernel
theorem dL_isSum_19 : decode cL_isSum 19 = .ok (.aload_n 3, 1) := by decide +kernel
theorem dL_isSum_20 : decode cL_isSum 20 = .ok (.iload 4, 2) := by decide +kernel
theorem dL_isSum_22 : decode cL_isSum 22 = .ok (.iaload, 1) := by decide +kernel
theorem dL_isSum_23 : decode cL_isSum 23 = .ok (.invokestatic 75, 3) := by decide +kernel
theorem dL_isSum_26 : decode cL_isSum 26 = .ok (.ifCond .eq 51, 3) := by decide +kernel
theorem dL_isSum_29 : decode cL_isSum 29 = .ok (.aload_n 0, 1) := by decide +kernel
theorem dL_isSum_30 : decode cL_isSum 30 = .ok (.iload 4, 2) := by decide +kernel
theorem dL_isSum_32 : decode cL_isSum 32 = .ok (.iconst 1, 1) := by decide +kernel
theorem dL_isSum_33 : decode cL_isSum 33 = .ok (.invokevirtual 71, 3) := by decide +kernel
theorem dL_isSum_36 : decode cL_isSum 36 = .ok (.i2l, 1) := by decide +kernel
theorem dL_isSum_37 : decode cL_isSum 37 = .ok (.aload_n 2, 1) := by decide +kernel
theorem dL_isSum_38 : decode cL_isSum 38 = .ok (.iload 4, 2) := by decide +kernel
theorem dL_isSum_40 : decode cL_isSum 40 = .ok (.iconst 1, 1) := by decide +kernel
theorem dL_isSum_41 : decode cL_isSum 41 = .ok (.aload_n 3, 1) := by decide +kernel
theorem dL_isSum_42 : decode cL_isSum 42 = .ok (.iload 4, 2) := by decide +kernel
theorem dL_isSum_44 : decode cL_isSum 44 = .ok (.iaload, 1) := by decide +kernel
theorem dL_isSum_45 : decode cL_isSum 45 = .ok (.invokestatic 75, 3) := by decide +kernel
theorem dL_isSum_48 : decode cL_isSum 48 = .ok (.ifCond .eq 29, 3) := by decide +kernel
theorem dL_isSum_51 : decode cL_isSum 51 = .ok (.aload_n 0, 1) := by decide +kernel
theorem dL_isSum_52 : decode cL_isSum 52 = .ok (.iload 4, 2) := by decide +kernel
theorem dL_isSum_54 : decode cL_isSum 54 = .ok (.iconst 2, 1) := by decide +kernel
theorem dL_isSum_55 : decode cL_isSum 55 = .ok (.invokevirtual 71, 3) := by decide +kernel
theorem dL_isSum_58 : decode cL_isSum 58 = .ok (.i2l, 1) := by decide +kernel
theorem dL_isSum_59 : decode cL_isSum 59 = .ok (.aload_n 2, 1) := by decide +kernel
theorem dL_isSum_60 : decode cL_isSum 60 = .ok (.iload 4, 2) := by decide +kernel
theorem dL_isSum_62 : decode cL_isSum 62 = .ok (.iconst 2, 1) := by decide +kernel
theorem dL_isSum_63 : decode cL_isSum 63 = .ok (.aload_n 3, 1) := by decide +kernel
theorem dL_isSum_64 : decode cL_isSum 64 = .ok (.iload 4, 2) := by decide +kernel
theorem dL_isSum_66 : decode cL_isSum 66 = .ok (.iaload, 1) := by decide +kernel
theorem dL_isSum_67 : decode cL_isSum 67 = .ok (.invokestatic 75, 3) := by decide +kernel
theorem dL_isSum_70 : decode cL_isSum 70 = .ok (.ifCond .eq 7, 3) := by decide +kernel
theorem dL_isSum_73 : decode cL_isSum 73 = .ok (.iconst 1, 1) := by decide +kernel
theorem dL_isSum_74 : decode cL_isSum 74 = .ok (.goto 4, 3) := by decide +kernel
theorem dL_isSum_77 : decode cL_isSum 77 = .ok (.iconst 0, 1) := by decide +kernel
theorem dL_isSum_78 : decode cL_isSum 78 = .ok (.istore 11, 2) := by decide +kernel
theorem dL_isSum_80 : decode cL_isSum 80 = .ok (.aload_n 1, 1) := by decide +kernel
theorem dL_isSum_81 : decode cL_isSum 81 = .ok (.iload 10, 2) := by decide +kernel
theorem dL_isSum_83 : decode cL_isSum 83 = .ok (.bipush 15, 2) := by decide +kernel
theorem dL_isSum_85 : decode cL_isSum 85 = .ok (.iadd, 1) := by decide +kernel
theorem dL_isSum_86 : decode cL_isSum 86 = .ok (.laload, 1) := by decide +kernel
theorem dL_isSum_87 : decode cL_isSum 87 = .ok (.lconst 1, 1) := by decide +kernel
theorem dL_isSum_88 : decode cL_isSum 88 = .ok (.lcmp, 1) := by decide +kernel
theorem dL_isSum_89 : decode cL_isSum 89 = .ok (.ifCond .ne 70, 3) := by decide +kernel
theorem dL_isSum_92 : decode cL_isSum 92 = .ok (.iload 11, 2) := by decide +kernel
theorem dL_isSum_94 : decode cL_isSum 94 = .ok (.ifCond .eq 54, 3) := by decide +kernel
theorem dL_isSum_97 : decode cL_isSum 97 = .ok (.lload 7, 2) := by decide +kernel
theorem dL_isSum_99 : decode cL_isSum 99 = .ok (.aload_n 1, 1) := by decide +kernel
theorem dL_isSum_100 : decode cL_isSum 100 = .ok (.iload 10, 2) := by decide +kernel
theorem dL_isSum_102 : decode cL_isSum 102 = .ok (.bipush 16, 2) := by decide +kernel
theorem dL_isSum_104 : decode cL_isSum 104 = .ok (.iadd, 1) := by decide +kernel
theorem dL_isSum_105 : decode cL_isSum 105 = .ok (.laload, 1) := by decide +kernel
theorem dL_isSum_106 : decode cL_isSum 106 = .ok (.aload_n 0, 1) := by decide +kernel
theorem dL_isSum_107 : decode cL_isSum 107 = .ok (.iload 4, 2) := by decide +kernel
theorem dL_isSum_109 : decode cL_isSum 109 = .ok (.iconst 1, 1) := by decide +kernel
theorem dL_isSum_110 : decode cL_isSum 110 = .ok (.invokevirtual 71, 3) := by decide +kernel
theorem dL_isSum_113 : decode cL_isSum 113 = .ok (.i2l, 1) := by decide +kernel
theorem dL_isSum_114 : decode cL_isSum 114 = .ok (.lload 5, 2) := by decide +kernel
theorem dL_isSum_116 : decode cL_isSum 116 = .ok (.lmul, 1) := by decide +kernel
theorem dL_isSum_117 : decode cL_isSum 117 = .ok (.ldc2_w 10, 3) := by decide +kernel
theorem dL_isSum_120 : decode cL_isSum 120 = .ok (.invokestatic 12, 3) := by decide +kernel
theorem dL_isSum_123 : decode cL_isSum 123 = .ok (.ladd, 1) := by decide +kernel
theorem dL_isSum_124 : decode cL_isSum 124 = .ok (.aload_n 1, 1) := by decide +kernel
theorem dL_isSum_125 : decode cL_isSum 125 = .ok (.iload 10, 2) := by decide +kernel
theorem dL_isSum_127 : decode cL_isSum 127 = .ok (.iconst 5, 1) := by decide +kernel
theorem dL_isSum_128 : decode cL_isSum 128 = .ok (.iadd, 1) := by decide +kernel
theorem dL_isSum_129 : decode cL_isSum 129 = .ok (.laload, 1) := by decide +kernel
theorem dL_isSum_130 : decode cL_isSum 130 = .ok (.aload_n 1, 1) := by decide +kernel
theorem dL_isSum_131 : decode cL_isSum 131 = .ok (.iload 10, 2) := by decide +kernel
theorem dL_isSum_133 : decode cL_isSum 133 = .ok (.bipush 6, 2) := by decide +kernel
theorem dL_isSum_135 : decode cL_isSum 135 = .ok (.iadd, 1) := by decide +kernel
theorem dL_isSum_136 : decode cL_isSum 136 = .ok (.laload, 1) := by decide +kernel
theorem dL_isSum_137 : decode cL_isSum 137 = .ok (.invokestatic 22, 3) := by decide +kernel
theorem dL_isSum_140 : decode cL_isSum 140 = .ok (.lcmp, 1) := by decide +kernel
theorem dL_isSum_141 : decode cL_isSum 141 = .ok (.ifCond .ne 7, 3) := by decide +kernel
theorem dL_isSum_144 : decode cL_isSum 144 = .ok (.iconst 1, 1) := by decide +kernel
theorem dL_isSum_145 : decode cL_isSum 145 = .ok (.goto 4, 3) := by decide +kernel
theorem dL_isSum_148 : decode cL_isSum 148 = .ok (.iconst 0, 1) := by decide +kernel
theorem dL_isSum_149 : decode cL_isSum 149 = .ok (.istore 11, 2) := by decide +kernel
theorem dL_isSum_151 : decode cL_isSum 151 = .ok (.aload_n 1, 1) := by decide +kernel
theorem dL_isSum_152 : decode cL_isSum 152 = .ok (.iload 10, 2) := by decide +kernel
theorem dL_isSum_154 : decode cL_isSum 154 = .ok (.bipush 14, 2) := by decide +kernel
theorem dL_isSum_156 : decode cL_isSum 156 = .ok (.iadd, 1) := by decide +kernel
theorem dL_isSum_157 : decode cL_isSum 157 = .ok (.lconst 1, 1) := by decide +kernel
theorem dL_isSum_158 : decode cL_isSum 158 = .ok (.lastore, 1) := by decide +kernel
theorem dL_isSum_159 : decode cL_isSum 159 = .ok (.aload_n 1, 1) := by decide +kernel
theorem dL_isSum_160 : decode cL_isSum 160 = .ok (.iload 10, 2) := by decide +kernel
theorem dL_isSum_162 : decode cL_isSum 162 = .ok (.bipush 14, 2) := by decide +kernel
theorem dL_isSum_164 : decode cL_isSum 164 = .ok (.iadd, 1) := by decide +kernel
theorem dL_isSum_165 : decode cL_isSum 165 = .ok (.iload 9, 2) := by decide +kernel
theorem dL_isSum_167 : decode cL_isSum 167 = .ok (.ifCond .eq 20, 3) := by decide +kernel
theorem dL_isSum_170 : decode cL_isSum 170 = .ok (.aload_n 3, 1) := by decide +kernel
theorem dL_isSum_171 : decode cL_isSum 171 = .ok (.iload 4, 2) := by decide +kernel
theorem dL_isSum_173 : decode cL_isSum 173 = .ok (.iaload, 1) := by decide +kernel
theorem dL_isSum_174 : decode cL_isSum 174 = .ok (.ifCond .ne 13, 3) := by decide +kernel
theorem dL_isSum_177 : decode cL_isSum 177 = .ok (.aload_n 1, 1) := by decide +kernel
theorem dL_isSum_178 : decode cL_isSum 178 = .ok (.iload 10, 2) := by decide +kernel
theorem dL_isSum_180 : decode cL_isSum 180 = .ok (.bipush 14, 2) := by decide +kernel
theorem dL_isSum_182 : decode cL_isSum 182 = .ok (.iadd, 1) := by decide +kernel
theorem dL_isSum_183 : decode cL_isSum 183 = .ok (.laload, 1) := by decide +kernel
theorem dL_isSum_184 : decode cL_isSum 184 = .ok (.goto 4, 3) := by decide +kernel
theorem dL_isSum_187 : decode cL_isSum 187 = .ok (.lconst 0, 1) := by decide +kernel
theorem dL_isSum_188 : decode cL_isSum 188 = .ok (.lastore, 1) := by decide +kernel
theorem dL_isSum_189 : decode cL_isSum 189 = .ok (.iload 11, 2) := by decide +kernel
theorem dL_isSum_191 : decode cL_isSum 191 = .ok (.ifCond .eq 31, 3) := by decide +kernel
theorem dL_isSum_194 : decode cL_isSum 194 = .ok (.aload_n 1, 1) := by decide +kernel
theorem dL_isSum_195 : decode cL_isSum 195 = .ok (.iload 10, 2) := by decide +kernel
theorem dL_isSum_197 : decode cL_isSum 197 = .ok (.bipush 14, 2) := by decide +kernel
theorem dL_isSum_199 : decode cL_isSum 199 = .ok (.iadd, 1) := by decide +kernel
theorem dL_isSum_200 : decode cL_isSum 200 = .ok (.laload, 1) := by decide +kernel
theorem dL_isSum_201 : decode cL_isSum 201 = .ok (.lconst 0, 1) := by decide +kernel
theorem dL_isSum_202 : decode cL_isSum 202 = .ok (.lcmp, 1) := by decide +kernel
theorem dL_isSum_203 : decode cL_isSum 203 = .ok (.ifCond .eq 15, 3) := by decide +kernel
theorem dL_isSum_206 : decode cL_isSum 206 = .ok (.aload_n 0, 1) := by decide +kernel
theorem dL_isSum_207 : decode cL_isSum 207 = .ok (.iload 4, 2) := by decide +kernel
theorem dL_isSum_209 : decode cL_isSum 209 = .ok (.invokevirtual 79, 3) := by decide +kernel
theorem dL_isSum_212 : decode cL_isSum 212 = .ok (.lload 7, 2) := by decide +kernel
theorem dL_isSum_214 : decode cL_isSum 214 = .ok (.lcmp, 1) := by decide +kernel
theorem dL_isSum_215 : decode cL_isSum 215 = .ok (.ifCond .ne 7, 3) := by decide +kernel
theorem dL_isSum_218 : decode cL_isSum 218 = .ok (.iconst 1, 1) := by decide +kernel
theorem dL_isSum_219 : decode cL_isSum 219 = .ok (.goto 4, 3) := by decide +kernel
theorem dL_isSum_222 : decode cL_isSum 222 = .ok (.iconst 0, 1) := by decide +kernel
theorem dL_isSum_223 : decode cL_isSum 223 = .ok (.ireturn, 1) := by decide +kernel
theorem dL_isRelay_0 : decode cL_isRelay 0 = .ok (.bipush 20, 2) := by decide +kernel
theorem dL_isRelay_2 : decode cL_isRelay 2 = .ok (.iload_n 2, 1) := by decide +kernel
theorem dL_isRelay_3 : decode cL_isRelay 3 = .ok (.imul, 1) := by decide +kernel
theorem dL_isRelay_4 : decode cL_isRelay 4 = .ok (.istore 10, 2) := by decide +kernel
theorem dL_isRelay_6 : decode cL_isRelay 6 = .ok (.lload 7, 2) := by decide +kernel
theorem dL_isRelay_8 : decode cL_isRelay 8 = .ok (.lload 5, 2) := by decide +kernel
theorem dL_isRelay_10 : decode cL_isRelay 10 = .ok (.lsub, 1) := by decide +kernel
theorem dL_isRelay_11 : decode cL_isRelay 11 = .ok (.lstore 11, 2) := by decide +kernel
theorem dL_isRelay_13 : decode cL_isRelay 13 = .ok (.aload_n 1, 1) := by decide +kernel
theorem dL_isRelay_14 : decode cL_isRelay 14 = .ok (.iload 10, 2) := by decide +kernel
theorem dL_isRelay_16 : decode cL_isRelay 16 = .ok (.bipush 13, 2) := by decide +kernel
theorem dL_isRelay_18 : decode cL_isRelay 18 = .ok (.iadd, 1) := by decide +kernel
theorem dL_isRelay_19 : decode cL_isRelay 19 = .ok (.laload, 1) := by decide +kernel
theorem dL_isRelay_20 : decode cL_isRelay 20 = .ok (.aload_n 1, 1) := by decide +kernel
theorem dL_isRelay_21 : decode cL_isRelay 21 = .ok (.iload 10, 2) := by decide +kernel
theorem dL_isRelay_23 : decode cL_isRelay 23 = .ok (.bipush 11, 2) := by decide +kernel
theorem dL_isRelay_25 : decode cL_isRelay 25 = .ok (.iadd, 1) := by decide +kernel
theorem dL_isRelay_26 : decode cL_isRelay 26 = .ok (.laload, 1) := by decide +kernel
theorem dL_isRelay_27 : decode cL_isRelay 27 = .ok (.ladd, 1) := by decide +kernel
theorem dL_isRelay_28 : decode cL_isRelay 28 = .ok (.aload_n 1, 1) := by decide +kernel
theorem dL_isRelay_29 : decode cL_isRelay 29 = .ok (.iload 10, 2) := by decide +kernel
theorem dL_isRelay_31 : decode cL_isRelay 31 = .ok (.iconst 5, 1) := by decide +kernel
theorem dL_isRelay_32 : decode cL_isRelay 32 = .ok (.iadd, 1) := by decide +kernel
theorem dL_isRelay_33 : decode cL_isRelay 33 = .ok (.laload, 1) := by decide +kernel
theorem dL_isRelay_34 : decode cL_isRelay 34 = .ok (.aload_n 1, 1) := by decide +kernel
theorem dL_isRelay_35 : decode cL_isRelay 35 = .ok (.iload 10, 2) := by decide +kernel
theorem dL_isRelay_37 : decode cL_isRelay 37 = .ok (.bipush 6, 2) := by decide +kernel
theorem dL_isRelay_39 : decode cL_isRelay 39 = .ok (.iadd, 1) := by decide +kernel
theorem dL_isRelay_40 : decode cL_isRelay 40 = .ok (.laload, 1) := by decide +kernel
theorem dL_isRelay_41 : decode cL_isRelay 41 = .ok (.invokestatic 22, 3) := by decide +kernel
theorem dL_isRelay_44 : decode cL_isRelay 44 = .ok (.lstore 13, 2) := by decide +kernel
theorem dL_isRelay_46 : decode cL_isRelay 46 = .ok (.aload_n 1, 1) := by decide +kernel
theorem dL_isRelay_47 : decode cL_isRelay 47 = .ok (.iload 10, 2) := by decide +kernel
theorem dL_isRelay_49 : decode cL_isRelay 49 = .ok (.bipush 13, 2) := by decide +kernel
theorem dL_isRelay_51 : decode cL_isRelay 51 = .ok (.iadd, 1) := by decide +kernel
theorem dL_isRelay_52 : decode cL_isRelay 52 = .ok (.laload, 1) := by decide +kernel
theorem dL_isRelay_53 : decode cL_isRelay 53 = .ok (.aload_n 1, 1) := by decide +kernel
theorem dL_isRelay_54 : decode cL_isRelay 54 = .ok (.iload 10, 2) := by decide +kernel
theorem dL_isRelay_56 : decode cL_isRelay 56 = .ok (.bipush 11, 2) := by decide +kernel
theorem dL_isRelay_58 : decode cL_isRelay 58 = .ok (.iadd, 1) := by decide +kernel
theorem dL_isRelay_59 : decode cL_isRelay 59 = .ok (.laload, 1) := by decide +kernel
theorem dL_isRelay_60 : decode cL_isRelay 60 = .ok (.lsub, 1) := by decide +kernel
theorem dL_isRelay_61 : decode cL_isRelay 61 = .ok (.aload_n 1, 1) := by decide +kernel
theorem dL_isRelay_62 : decode cL_isRelay 62 = .ok (.iload 10, 2) := by decide +kernel
theorem dL_isRelay_64 : decode cL_isRelay 64 = .ok (.iconst 5, 1) := by decide +kernel
theorem dL_isRelay_65 : decode cL_isRelay 65 = .ok (.iadd, 1) := by decide +kernel
theorem dL_isRelay_66 : decode cL_isRelay 66 = .ok (.laload, 1) := by decide +kernel
theorem dL_isRelay_67 : decode cL_isRelay 67 = .ok (.aload_n 1, 1) := by decide +kernel
theorem dL_isRelay_68 : decode cL_isRelay 68 = .ok (.iload 10, 2) := by decide +kernel
theorem dL_isRelay_70 : decode cL_isRelay 70 = .ok (.bipush 6, 2) := by decide +kernel
theorem dL_isRelay_72 : decode cL_isRelay 72 = .ok (.iadd, 1) := by decide +kernel
theorem dL_isRelay_73 : decode cL_isRelay 73 = .ok (.laload, 1) := by decide +kernel
theorem dL_isRelay_74 : decode cL_isRelay 74 = .ok (.invokestatic 22, 3) := by decide +kernel
theorem dL_isRelay_77 : decode cL_isRelay 77 = .ok (.lstore 15, 2) := by decide +kernel
theorem dL_isRelay_79 : decode cL_isRelay 79 = .ok (.lload_n 3, 1) := by decide +kernel
theorem dL_isRelay_80 : decode cL_isRelay 80 = .ok (.lload 13, 2) := by decide +kernel
theorem dL_isRelay_82 : decode cL_isRelay 82 = .ok (.lcmp, 1) := by decide +kernel
theorem dL_isRelay_83 : decode cL_isRelay 83 = .ok (.ifCond .eq 10, 3) := by decide +kernel
theorem dL_isRelay_86 : decode cL_isRelay 86 = .ok (.lload_n 3, 1) := by decide +kernel
theorem dL_isRelay_87 : decode cL_isRelay 87 = .ok (.lload 15, 2) := by decide +kernel
theorem dL_isRelay_89 : decode cL_isRelay 89 = .ok (.lcmp, 1) := by decide +kernel
theorem dL_isRelay_90 : decode cL_isRelay 90 = .ok (.ifCond .ne 48, 3) := by decide +kernel
theorem dL_isRelay_93 : decode cL_isRelay 93 = .ok (.lload 11, 2) := by decide +kernel
theorem dL_isRelay_95 : decode cL_isRelay 95 = .ok (.aload_n 1, 1) := by decide +kernel
theorem dL_isRelay_96 : decode cL_isRelay 96 = .ok (.iload 10, 2) := by decide +kernel
theorem dL_isRelay_98 : decode cL_isRelay 98 = .ok (.bipush 12, 2) := by decide +kernel
theorem dL_isRelay_100 : decode cL_isRelay 100 = .ok (.iadd, 1) := by decide +kernel
theorem dL_isRelay_101 : decode cL_isRelay 101 = .ok (.laload, 1) := by decide +kernel
theorem dL_isRelay_102 : decode cL_isRelay 102 = .ok (.lcmp, 1) := by decide +kernel
theorem dL_isRelay_103 : decode cL_isRelay 103 = .ok (.ifCond .le 10, 3) := by decide +kernel
theorem dL_isRelay_106 : decode cL_isRelay 106 = .ok (.lload_n 3, 1) := by decide +kernel
theorem dL_isRelay_107 : decode cL_isRelay 107 = .ok (.lload 13, 2) := by decide +kernel
theorem dL_isRelay_109 : decode cL_isRelay 109 = .ok (.lcmp, 1) := by decide +kernel
theorem dL_isRelay_110 : decode cL_isRelay 110 = .ok (.ifCond .ne 28, 3) := by decide +kernel
theorem dL_isRelay_113 : decode cL_isRelay 113 = .ok (.lload 11, 2) := by decide +kernel
theorem dL_isRelay_115 : decode cL_isRelay 115 = .ok (.aload_n 1, 1) := by decide +kernel
theorem dL_isRelay_116 : decode cL_isRelay 116 = .ok (.iload 10, 2) := by decide +kernel
theorem dL_isRelay_118 : decode cL_isRelay 118 = .ok (.bipush 12, 2) := by decide +kernel
theorem dL_isRelay_120 : decode cL_isRelay 120 = .ok (.iadd, 1) := by decide +kernel
theorem dL_isRelay_121 : decode cL_isRelay 121 = .ok (.laload, 1) := by decide +kernel
theorem dL_isRelay_122 : decode cL_isRelay 122 = .ok (.lneg, 1) := by decide +kernel
theorem dL_isRelay_123 : decode cL_isRelay 123 = .ok (.lcmp, 1) := by decide +kernel
theorem dL_isRelay_124 : decode cL_isRelay 124 = .ok (.ifCond .ge 10, 3) := by decide +kernel
theorem dL_isRelay_127 : decode cL_isRelay 127 = .ok (.lload_n 3, 1) := by decide +kernel
theorem dL_isRelay_128 : decode cL_isRelay 128 = .ok (.lload 15, 2) := by decide +kernel
theorem dL_isRelay_130 : decode cL_isRelay 130 = .ok (.lcmp, 1) := by decide +kernel
theorem dL_isRelay_131 : decode cL_isRelay 131 = .ok (.ifCond .ne 7, 3) := by decide +kernel
theorem dL_isRelay_134 : decode cL_isRelay 134 = .ok (.iconst 1, 1) := by decide +kernel
theorem dL_isRelay_135 : decode cL_isRelay 135 = .ok (.goto 4, 3) := by decide +kernel
theorem dL_isRelay_138 : decode cL_isRelay 138 = .ok (.iconst 0, 1) := by decide +kernel
theorem dL_isRelay_139 : decode cL_isRelay 139 = .ok (.istore 17, 2) := by decide +kernel
theorem dL_isRelay_141 : decode cL_isRelay 141 = .ok (.aload 9, 2) := by decide +kernel
theorem dL_isRelay_143 : decode cL_isRelay 143 = .ok (.iconst 3, 1) := by decide +kernel
theorem dL_isRelay_144 : decode cL_isRelay 144 = .ok (.iload_n 2, 1) := by decide +kernel
theorem dL_isRelay_145 : decode cL_isRelay 145 = .ok (.iadd, 1) := by decide +kernel
theorem dL_isRelay_146 : decode cL_isRelay 146 = .ok (.dup2, 1) := by decide +kernel
theorem dL_isRelay_147 : decode cL_isRelay 147 = .ok (.iaload, 1) := by decide +kernel
theorem dL_isRelay_148 : decode cL_isRelay 148 = .ok (.iconst 1, 1) := by decide +kernel
theorem dL_isRelay_149 : decode cL_isRelay 149 = .ok (.iadd, 1) := by decide +kernel
theorem dL_isRelay_150 : decode cL_isRelay 150 = .ok (.iastore, 1) := by decide +kernel
theorem dL_isRelay_151 : decode cL_isRelay 151 = .ok (.aload_n 0, 1) := by decide +kernel
theorem dL_isRelay_152 : decode cL_isRelay 152 = .ok (.iload_n 2, 1) := by decide +kernel
theorem dL_isRelay_153 : decode cL_isRelay 153 = .ok (.invokevirtual 30, 3) := by decide +kernel
theorem dL_isRelay_156 : decode cL_isRelay 156 = .ok (.iconst 3, 1) := by decide +kernel
theorem dL_isRelay_157 : decode cL_isRelay 157 = .ok (.if_icmp .ne 35, 3) := by decide +kernel
theorem dL_isRelay_160 : decode cL_isRelay 160 = .ok (.iload 17, 2) := by decide +kernel
theorem dL_isRelay_162 : decode cL_isRelay 162 = .ok (.ifCond .eq 28, 3) := by decide +kernel
theorem dL_isRelay_165 : decode cL_isRelay 165 = .ok (.aload_n 0, 1) := by decide +kernel
theorem dL_isRelay_166 : decode cL_isRelay 166 = .ok (.iload_n 2, 1) := by decide +kernel
theorem dL_isRelay_167 : decode cL_isRelay 167 = .ok (.invokevirtual 39, 3) := by decide +kernel
theorem dL_isRelay_170 : decode cL_isRelay 170 = .ok (.iconst 1, 1) := by decide +kernel
theorem dL_isRelay_171 : decode cL_isRelay 171 = .ok (.if_icmp .ne 19, 3) := by decide +kernel
theorem dL_isRelay_174 : decode cL_isRelay 174 = .ok (.aload 9, 2) := by decide +kernel
theorem dL_isRelay_176 : decode cL_isRelay 176 = .ok (.iconst 3, 1) := by decide +kernel
theorem dL_isRelay_177 : decode cL_isRelay 177 = .ok (.iload_n 2, 1) := by decide +kernel
theorem dL_isRelay_178 : decode cL_isRelay 178 = .ok (.iadd, 1) := by decide +kernel
theorem dL_isRelay_179 : decode cL_isRelay 179 = .ok (.iaload, 1) := by decide +kernel
theorem dL_isRelay_180 : decode cL_isRelay 180 = .ok (.sipush 400, 3) := by decide +kernel
theorem dL_isRelay_183 : decode cL_isRelay 183 = .ok (.if_icmp .ge 7, 3) := by decide +kernel
theorem dL_isRelay_186 : decode cL_isRelay 186 = .ok (.iconst 1, 1) := by decide +kernel
theorem dL_isRelay_187 : decode cL_isRelay 187 = .ok (.goto 4, 3) := by decide +kernel
theorem dL_isRelay_190 : decode cL_isRelay 190 = .ok (.iconst 0, 1) := by decide +kernel
theorem dL_isRelay_191 : decode cL_isRelay 191 = .ok (.ireturn, 1) := by decide +kernel
theorem dL_isRelay_192 : decode cL_isRelay 192 = .ok (.ldc2_w 10, 3) := by decide +kernel
theorem dL_isRelay_195 : decode cL_isRelay 195 = .ok (.aload_n 1, 1) := by decide +kernel
theorem dL_isRelay_196 : decode cL_isRelay 196 = .ok (.iload 10, 2) := by decide +kernel
theorem dL_isRelay_198 : decode cL_isRelay 198 = .ok (.bipush 13, 2) := by decide +kernel
theorem dL_isRelay_200 : decode cL_isRelay 200 = .ok (.iadd, 1) := by decide +kernel
theorem dL_isRelay_201 : decode cL_isRelay 201 = .ok (.laload, 1) := by decide +kernel
theorem dL_isRelay_202 : decode cL_isRelay 202 = .ok (.lmul, 1) := by decide +kernel
theorem dL_isRelay_203 : decode cL_isRelay 203 = .ok (.aload_n 0, 1) := by decide +kernel
theorem dL_isRelay_204 : decode cL_isRelay 204 = .ok (.iload_n 2, 1) := by decide +kernel
theorem dL_isRelay_205 : decode cL_isRelay 205 = .ok (.iconst 0, 1) := by decide +kernel
theorem dL_isRelay_206 : decode cL_isRelay 206 = .ok (.invokevirtual 71, 3) := by decide +kernel
theorem dL_isRelay_209 : decode cL_isRelay 209 = .ok (.i2l, 1) := by decide +kernel
theorem dL_isRelay_210 : decode cL_isRelay 210 = .ok (.lload 11, 2) := by decide +kernel
theorem dL_isRelay_212 : decode cL_isRelay 212 = .ok (.lmul, 1) := by decide +kernel
theorem dL_isRelay_213 : decode cL_isRelay 213 = .ok (.lsub, 1) := by decide +kernel
theorem dL_isRelay_214 : decode cL_isRelay 214 = .ok (.aload_n 0, 1) := by decide +kernel
theorem dL_isRelay_215 : decode cL_isRelay 215 = .ok (.iload_n 2, 1) := by decide +kernel
theorem dL_isRelay_216 : decode cL_isRelay 216 = .ok (.iconst 2, 1) := by decide +kernel
theorem dL_isRelay_217 : decode cL_isRelay 217 = .ok (.invokevirtual 71, 3) := by decide +kernel
theorem dL_isRelay_220 : decode cL_isRelay 220 = .ok (.i2l, 1) := by decide +kernel
theorem dL_isRelay_221 : decode cL_isRelay 221 = .ok (.aload_n 1, 1) := by decide +kernel
theorem dL_isRelay_222 : decode cL_isRelay 222 = .ok (.iload 10, 2) := by decide +kernel
theorem dL_isRelay_224 : decode cL_isRelay 224 = .ok (.bipush 10, 2) := by decide +kernel
theorem dL_isRelay_226 : decode cL_isRelay 226 = .ok (.iadd, 1) := by decide +kernel
theorem dL_isRelay_227 : decode cL_isRelay 227 = .ok (.laload, 1) := by decide +kernel
theorem dL_isRelay_228 : decode cL_isRelay 228 = .ok (.lload 5, 2) := by decide +kernel
theorem dL_isRelay_230 : decode cL_isRelay 230 = .ok (.lsub, 1) := by decide +kernel
theorem dL_isRelay_231 : decode cL_isRelay 231 = .ok (.lmul, 1) := by decide +kernel
theorem dL_isRelay_232 : decode cL_isRelay 232 = .ok (.lsub, 1) := by decide +kernel
theorem dL_isRelay_233 : decode cL_isRelay 233 = .ok (.lstore 18, 2) := by decide +kernel
theorem dL_isRelay_235 : decode cL_isRelay 235 = .ok (.aload_n 0, 1) := by decide +kernel
theorem dL_isRelay_236 : decode cL_isRelay 236 = .ok (.iload_n 2, 1) := by decide +kernel
theorem dL_isRelay_237 : decode cL_isRelay 237 = .ok (.invokevirtual 39, 3) := by decide +kernel
theorem dL_isRelay_240 : decode cL_isRelay 240 = .ok (.istore 20, 2) := by decide +kernel
theorem dL_isRelay_242 : decode cL_isRelay 242 = .ok (.iload 17, 2) := by decide +kernel
theorem dL_isRelay_244 : decode cL_isRelay 244 = .ok (.ifCond .eq 73, 3) := by decide +kernel
theorem dL_isRelay_247 : decode cL_isRelay 247 = .ok (.aload_n 0, 1) := by decide +kernel
theorem dL_isRelay_248 : decode cL_isRelay 248 = .ok (.iload_n 2, 1) := by decide +kernel
theorem dL_isRelay_249 : decode cL_isRelay 249 = .ok (.invokevirtual 30, 3) := by decide +kernel
theorem dL_isRelay_252 : decode cL_isRelay 252 = .ok (.iconst 1, 1) := by decide +kernel
theorem dL_isRelay_253 : decode cL_isRelay 253 = .ok (.if_icmp .ne 64, 3) := by decide +kernel
theorem dL_isRelay_256 : decode cL_isRelay 256 = .ok (.iload 20, 2) := by decide +kernel
theorem dL_isRelay_258 : decode cL_isRelay 258 = .ok (.iconst 2, 1) := by decide +kernel
theorem dL_isRelay_259 : decode cL_isRelay 259 = .ok (.if_icmp .eq 21, 3) := by decide +kernel
theorem dL_isRelay_262 : decode cL_isRelay 262 = .ok (.iload 20, 2) := by decide +kernel
theorem dL_isRelay_264 : decode cL_isRelay 264 = .ok (.iconst 3, 1) := by decide +kernel
theorem dL_isRelay_265 : decode cL_isRelay 265 = .ok (.if_icmp .ne 52, 3) := by decide +kernel
theorem dL_isRelay_268 : decode cL_isRelay 268 = .ok (.aload 9, 2) := by decide +kernel
theorem dL_isRelay_270 : decode cL_isRelay 270 = .ok (.iconst 3, 1) := by decide +kernel
theorem dL_isRelay_271 : decode cL_isRelay 271 = .ok (.iload_n 2, 1) := by decide +kernel
theorem dL_isRelay_272 : decode cL_isRelay 272 = .ok (.iadd, 1) := by decide +kernel
theorem dL_isRelay_273 : decode cL_isRelay 273 = .ok (.iaload, 1) := by decide +kernel
theorem dL_isRelay_274 : decode cL_isRelay 274 = .ok (.sipush 400, 3) := by decide +kernel
theorem dL_isRelay_277 : decode cL_isRelay 277 = .ok (.if_icmp .ne 40, 3) := by decide +kernel
theorem dL_isRelay_280 : decode cL_isRelay 280 = .ok (.aload_n 0, 1) := by decide +kernel
theorem dL_isRelay_281 : decode cL_isRelay 281 = .ok (.iload_n 2, 1) := by decide +kernel
theorem dL_isRelay_282 : decode cL_isRelay 282 = .ok (.invokevirtual 82, 3) := by decide +kernel
theorem dL_isRelay_285 : decode cL_isRelay 285 = .ok (.lload 18, 2) := by decide +kernel
theorem dL_isRelay_287 : decode cL_isRelay 287 = .ok (.lcmp, 1) := by decide +kernel
theorem dL_isRelay_288 : decode cL_isRelay 288 = .ok (.ifCond .ne 29, 3) := by decide +kernel
theorem dL_isRelay_291 : decode cL_isRelay 291 = .ok (.iload 20, 2) := by decide +kernel
theorem dL_isRelay_293 : decode cL_isRelay 293 = .ok (.iconst 2, 1) := by decide +kernel
theorem dL_isRelay_294 : decode cL_isRelay 294 = .ok (.if_icmp .ne 19, 3) := by decide +kernel
theorem dL_isRelay_297 : decode cL_isRelay 297 = .ok (.aload_n 0, 1) := by decide +kernel
theorem dL_isRelay_298 : decode cL_isRelay 298 = .ok (.iload_n 2, 1) := by decide +kernel
theorem dL_isRelay_299 : decode cL_isRelay 299 = .ok (.aload_n 1, 1) := by decide +kernel
theorem dL_isRelay_300 : decode cL_isRelay 300 = .ok (.iload 10, 2) := by decide +kernel
theorem dL_isRelay_302 : decode cL_isRelay 302 = .ok (.bipush 11, 2) := by decide +kernel
theorem dL_isRelay_304 : decode cL_isRelay 304 = .ok (.iadd, 1) := by decide +kernel
theorem dL_isRelay_305 : decode cL_isRelay 305 = .ok (.laload, 1) := by decide +kernel
theorem dL_isRelay_306 : decode cL_isRelay 306 = .ok (.l2i, 1) := by decide +kernel
theorem dL_isRelay_307 : decode cL_isRelay 307 = .ok (.invokestatic 85, 3) := by decide +kernel
theorem dL_isRelay_310 : decode cL_isRelay 310 = .ok (.ifCond .eq 7, 3) := by decide +kernel
theorem dL_isRelay_313 : decode cL_isRelay 313 = .ok (.iconst 1, 1) := by decide +kernel
theorem dL_isRelay_314 : decode cL_isRelay 314 = .ok (.goto 4, 3) := by decide +kernel
theorem dL_isRelay_317 : decode cL_isRelay 317 = .ok (.iconst 0, 1) := by decide +kernel
theorem dL_isRelay_318 : decode cL_isRelay 318 = .ok (.ireturn, 1) := by decide +kernel
theorem dL_isTold_0 : decode cL_isTold 0 = .ok (.aload_n 0, 1) := by decide +kernel
theorem dL_isTold_1 : decode cL_isTold 1 = .ok (.iload_n 1, 1) := by decide +kernel
theorem dL_isTold_2 : decode cL_isTold 2 = .ok (.invokevirtual 89, 3) := by decide +kernel
theorem dL_isTold_5 : decode cL_isTold 5 = .ok (.lstore_n 3, 1) := by decide +kernel
theorem dL_isTold_6 : decode cL_isTold 6 = .ok (.aload_n 0, 1) := by decide +kernel
theorem dL_isTold_7 : decode cL_isTold 7 = .ok (.iload_n 1, 1) := by decide +kernel
theorem dL_isTold_8 : decode cL_isTold 8 = .ok (.invokevirtual 92, 3) := by decide +kernel
theorem dL_isTold_11 : decode cL_isTold 11 = .ok (.istore 5, 2) := by decide +kernel
theorem dL_isTold_13 : decode cL_isTold 13 = .ok (.lload_n 3, 1) := by decide +kernel
theorem dL_isTold_14 : decode cL_isTold 14 = .ok (.lconst 0, 1) := by decide +kernel
theorem dL_isTold_15 : decode cL_isTold 15 = .ok (.lcmp, 1) := by decide +kernel
theorem dL_isTold_16 : decode cL_isTold 16 = .ok (.ifCond .lt 17, 3) := by decide +kernel
theorem dL_isTold_19 : decode cL_isTold 19 = .ok (.iload 5, 2) := by decide +kernel
theorem dL_isTold_21 : decode cL_isTold 21 = .ok (.iconst 2, 1) := by decide +kernel
theorem dL_isTold_22 : decode cL_isTold 22 = .ok (.if_icmp .lt 11, 3) := by decide +kernel
theorem dL_isTold_25 : decode cL_isTold 25 = .ok (.iload 5, 2) := by decide +kernel
theorem dL_isTold_27 : decode cL_isTold 27 = .ok (.sipush 200, 3) := by decide +kernel
theorem dL_isTold_30 : decode cL_isTold 30 = .ok (.if_icmp .le 5, 3) := by decide +kernel
theorem dL_isTold_33 : decode cL_isTold 33 = .ok (.iconst 0, 1) := by decide +kernel
theorem dL_isTold_34 : decode cL_isTold 34 = .ok (.ireturn, 1) := by decide +kernel
theorem dL_isTold_35 : decode cL_isTold 35 = .ok (.lload_n 3, 1) := by decide +kernel
theorem dL_isTold_36 : decode cL_isTold 36 = .ok (.lconst 0, 1) := by decide +kernel
theorem dL_isTold_37 : decode cL_isTold 37 = .ok (.lcmp, 1) := by decide +kernel
theorem dL_isTold_38 : decode cL_isTold 38 = .ok (.ifCond .ne 5, 3) := by decide +kernel
theorem dL_isTold_41 : decode cL_isTold 41 = .ok (.iconst 1, 1) := by decide +kernel
theorem dL_isTold_42 : decode cL_isTold 42 = .ok (.ireturn, 1) := by decide +kernel
theorem dL_isTold_43 : decode cL_isTold 43 = .ok (.aload_n 0, 1) := by decide +kernel
theorem dL_isTold_44 : decode cL_isTold 44 = .ok (.iload_n 1, 1) := by decide +kernel
theorem dL_isTold_45 : decode cL_isTold 45 = .ok (.invokevirtual 95, 3) := by decide +kernel
theorem dL_isTold_48 : decode cL_isTold 48 = .ok (.i2l, 1) := by decide +kernel
theorem dL_isTold_49 : decode cL_isTold 49 = .ok (.lstore 6, 2) := by decide +kernel
theorem dL_isTold_51 : decode cL_isTold 51 = .ok (.lload 6, 2) := by decide +kernel
theorem dL_isTold_53 : decode cL_isTold 53 = .ok (.ldc2_w 98, 3) := by decide +kernel
theorem dL_isTold_56 : decode cL_isTold 56 = .ok (.iload_n 2, 1) := by decide +kernel
theorem dL_isTold_57 : decode cL_isTold 57 = .ok (.i2l, 1) := by decide +kernel
theorem dL_isTold_58 : decode cL_isTold 58 = .ok (.lmul, 1) := by decide +kernel
theorem dL_isTold_59 : decode cL_isTold 59 = .ok (.ldc2_w 100, 3) := by decide +kernel
theorem dL_isTold_62 : decode cL_isTold 62 = .ok (.lload_n 3, 1) := by decide +kernel
theorem dL_isTold_63 : decode cL_isTold 63 = .ok (.lmul, 1) := by decide +kernel
theorem dL_isTold_64 : decode cL_isTold 64 = .ok (.ldiv, 1) := by decide +kernel
theorem dL_isTold_65 : decode cL_isTold 65 = .ok (.lcmp, 1) := by decide +kernel
theorem dL_isTold_66 : decode cL_isTold 66 = .ok (.ifCond .ne 7, 3) := by decide +kernel
theorem dL_isTold_69 : decode cL_isTold 69 = .ok (.iconst 1, 1) := by decide +kernel
theorem dL_isTold_70 : decode cL_isTold 70 = .ok (.goto 4, 3) := by decide +kernel
theorem dL_isTold_73 : decode cL_isTold 73 = .ok (.iconst 0, 1) := by decide +kernel
theorem dL_isTold_74 : decode cL_isTold 74 = .ok (.istore 8, 2) := by decide +kernel
theorem dL_isTold_76 : decode cL_isTold 76 = .ok (.ldc2_w 102, 3) := by decide +kernel
theorem dL_isTold_79 : decode cL_isTold 79 = .ok (.lload 6, 2) := by decide +kernel
theorem dL_isTold_81 : decode cL_isTold 81 = .ok (.lmul, 1) := by decide +kernel
theorem dL_isTold_82 : decode cL_isTold 82 = .ok (.ldc2_w 104, 3) := by decide +kernel
theorem dL_isTold_85 : decode cL_isTold 85 = .ok (.ldiv, 1) := by decide +kernel
theorem dL_isTold_86 : decode cL_isTold 86 = .ok (.lstore 9, 2) := by decide +kernel
theorem dL_isTold_88 : decode cL_isTold 88 = .ok (.ldc2_w 106, 3) := by decide +kernel
theorem dL_isTold_91 : decode cL_isTold 91 = .ok (.lload 6, 2) := by decide +kernel
theorem dL_isTold_93 : decode cL_isTold 93 = .ok (.lmul, 1) := by decide +kernel
theorem dL_isTold_94 : decode cL_isTold 94 = .ok (.ldc2_w 108, 3) := by decide +kernel
theorem dL_isTold_97 : decode cL_isTold 97 = .ok (.iload 5, 2) := by decide +kernel
theorem dL_isTold_99 : decode cL_isTold 99 = .ok (.i2l, 1) := by decide +kernel
theorem dL_isTold_100 : decode cL_isTold 100 = .ok (.lmul, 1) := by decide +kernel
theorem dL_isTold_101 : decode cL_isTold 101 = .ok (.ldiv, 1) := by decide +kernel
theorem dL_isTold_102 : decode cL_isTold 102 = .ok (.lstore 11, 2) := by decide +kernel
theorem dL_isTold_104 : decode cL_isTold 104 = .ok (.iload 8, 2) := by decide +kernel
theorem dL_isTold_106 : decode cL_isTold 106 = .ok (.ifCond .eq 87, 3) := by decide +kernel
theorem dL_isTold_109 : decode cL_isTold 109 = .ok (.aload_n 0, 1) := by decide +kernel
theorem dL_isTold_110 : decode cL_isTold 110 = .ok (.iload_n 1, 1) := by decide +kernel
theorem dL_isTold_111 : decode cL_isTold 111 = .ok (.iconst 0, 1) := by decide +kernel
theorem dL_isTold_112 : decode cL_isTold 112 = .ok (.iconst 0, 1) := by decide +kernel
theorem dL_isTold_113 : decode cL_isTold 113 = .ok (.invokevirtual 110, 3) := by decide +kernel
theorem dL_isTold_116 : decode cL_isTold 116 = .ok (.i2l, 1) := by decide +kernel
theorem dL_isTold_117 : decode cL_isTold 117 = .ok (.lload 9, 2) := by decide +kernel
theorem dL_isTold_119 : decode cL_isTold 119 = .ok (.ldc2_w 114, 3) := by decide +kernel
theorem dL_isTold_122 : decode cL_isTold 122 = .ok (.lcmp, 1) := by decide +kernel
theorem dL_isTold_123 : decode cL_isTold 123 = .ok (.ifCond .ge 8, 3) := by decide +kernel
theorem dL_isTold_126 : decode cL_isTold 126 = .ok (.lload 9, 2) := by decide +kernel
theorem dL_isTold_128 : decode cL_isTold 128 = .ok (.goto 6, 3) := by decide +kernel
theorem dL_isTold_131 : decode cL_isTold 131 = .ok (.ldc2_w 114, 3) := by decide +kernel
theorem dL_isTold_134 : decode cL_isTold 134 = .ok (.lcmp, 1) := by decide +kernel
theorem dL_isTold_135 : decode cL_isTold 135 = .ok (.ifCond .ne 58, 3) := by decide +kernel
theorem dL_isTold_138 : decode cL_isTold 138 = .ok (.aload_n 0, 1) := by decide +kernel
theorem dL_isTold_139 : decode cL_isTold 139 = .ok (.iload_n 1, 1) := by decide +kernel
theorem dL_isTold_140 : decode cL_isTold 140 = .ok (.iconst 1, 1) := by decide +kernel
theorem dL_isTold_141 : decode cL_isTold 141 = .ok (.iconst 1, 1) := by decide +kernel
theorem dL_isTold_142 : decode cL_isTold 142 = .ok (.invokevirtual 110, 3) := by decide +kernel
theorem dL_isTold_145 : decode cL_isTold 145 = .ok (.i2l, 1) := by decide +kernel
theorem dL_isTold_146 : decode cL_isTold 146 = .ok (.lload 11, 2) := by decide +kernel
theorem dL_isTold_148 : decode cL_isTold 148 = .ok (.ldc2_w 116, 3) := by decide +kernel
theorem dL_isTold_151 : decode cL_isTold 151 = .ok (.lcmp, 1) := by decide +kernel
theorem dL_isTold_152 : decode cL_isTold 152 = .ok (.ifCond .ge 8, 3) := by decide +kernel
theorem dL_isTold_155 : decode cL_isTold 155 = .ok (.lload 11, 2) := by decide +kernel
theorem dL_isTold_157 : decode cL_isTold 157 = .ok (.goto 6, 3) := by decide +kernel
theorem dL_isTold_160 : decode cL_isTold 160 = .ok (.ldc2_w 116, 3) := by decide +kernel
theorem dL_isTold_163 : decode cL_isTold 163 = .ok (.lcmp, 1) := by decide +kernel
theorem dL_isTold_164 : decode cL_isTold 164 = .ok (.ifCond .ne 29, 3) := by decide +kernel
theorem dL_isTold_167 : decode cL_isTold 167 = .ok (.aload_n 0, 1) := by decide +kernel
theorem dL_isTold_168 : decode cL_isTold 168 = .ok (.iload_n 1, 1) := by decide +kernel
theorem dL_isTold_169 : decode cL_isTold 169 = .ok (.iconst 0, 1) := by decide +kernel
theorem dL_isTold_170 : decode cL_isTold 170 = .ok (.iconst 2, 1) := by decide +kernel
theorem dL_isTold_171 : decode cL_isTold 171 = .ok (.invokevirtual 110, 3) := by decide +kernel
theorem dL_isTold_174 : decode cL_isTold 174 = .ok (.ifCond .lt 19, 3) := by decide +kernel
theorem dL_isTold_177 : decode cL_isTold 177 = .ok (.aload_n 0, 1) := by decide +kernel
theorem dL_isTold_178 : decode cL_isTold 178 = .ok (.iload_n 1, 1) := by decide +kernel
theorem dL_isTold_179 : decode cL_isTold 179 = .ok (.iconst 0, 1) := by decide +kernel
theorem dL_isTold_180 : decode cL_isTold 180 = .ok (.iconst 2, 1) := by decide +kernel
theorem dL_isTold_181 : decode cL_isTold 181 = .ok (.invokevirtual 110, 3) := by decide +kernel
theorem dL_isTold_184 : decode cL_isTold 184 = .ok (.ldc 118, 2) := by decide +kernel
theorem dL_isTold_186 : decode cL_isTold 186 = .ok (.if_icmp .gt 7, 3) := by decide +kernel
theorem dL_isTold_189 : decode cL_isTold 189 = .ok (.iconst 1, 1) := by decide +kernel
theorem dL_isTold_190 : decode cL_isTold 190 = .ok (.goto 4, 3) := by decide +kernel
theorem dL_isTold_193 : decode cL_isTold 193 = .ok (.iconst 0, 1) := by decide +kernel
theorem dL_isTold_194 : decode cL_isTold 194 = .ok (.ireturn, 1) := by decide +kernel
theorem dL_isSettled_0 : decode cL_isSettled 0 = .ok (.aload_n 0, 1) := by decide +kernel
theorem dL_isSettled_1 : decode cL_isSettled 1 = .ok (.iload_n 2, 1) := by decide +kernel
theorem dL_isSettled_2 : decode cL_isSettled 2 = .ok (.invokevirtual 46, 3) := by decide +kernel
theorem dL_isSettled_5 : decode cL_isSettled 5 = .ok (.aload_n 0, 1) := by decide +kernel
theorem dL_isSettled_6 : decode cL_isSettled 6 = .ok (.iload_n 2, 1) := by decide +kernel
theorem dL_isSettled_7 : decode cL_isSettled 7 = .ok (.invokevirtual 42, 3) := by decide +kernel
theorem dL_isSettled_10 : decode cL_isSettled 10 = .ok (.lsub, 1) := by decide +kernel
theorem dL_isSettled_11 : decode cL_isSettled 11 = .ok (.lstore_n 3, 1) := by decide +kernel
theorem dL_isSettled_12 : decode cL_isSettled 12 = .ok (.aload_n 1, 1) := by decide +kernel
theorem dL_isSettled_13 : decode cL_isSettled 13 = .ok (.bipush 20, 2) := by decide +kernel
theorem dL_isSettled_15 : decode cL_isSettled 15 = .ok (.iload_n 2, 1) := by decide +kernel
theorem dL_isSettled_16 : decode cL_isSettled 16 = .ok (.imul, 1) := by decide +kernel
theorem dL_isSettled_17 : decode cL_isSettled 17 = .ok (.bipush 10, 2) := by decide +kernel
theorem dL_isSettled_19 : decode cL_isSettled 19 = .ok (.iadd, 1) := by decide +kernel
theorem dL_isSettled_20 : decode cL_isSettled 20 = .ok (.laload, 1) := by decide +kernel
theorem dL_isSettled_21 : decode cL_isSettled 21 = .ok (.aload_n 0, 1) := by decide +kernel
theorem dL_isSettled_22 : decode cL_isSettled 22 = .ok (.iload_n 2, 1) := by decide +kernel
theorem dL_isSettled_23 : decode cL_isSettled 23 = .ok (.invokevirtual 42, 3) := by decide +kernel
theorem dL_isSettled_26 : decode cL_isSettled 26 = .ok (.lsub, 1) := by decide +kernel
theorem dL_isSettled_27 : decode cL_isSettled 27 = .ok (.lstore 5, 2) := by decide +kernel
theorem dL_isSettled_29 : decode cL_isSettled 29 = .ok (.aload_n 0, 1) := by decide +kernel
theorem dL_isSettled_30 : decode cL_isSettled 30 = .ok (.iload_n 2, 1) := by decide +kernel
theorem dL_isSettled_31 : decode cL_isSettled 31 = .ok (.invokevirtual 82, 3) := by decide +kernel
theorem dL_isSettled_34 : decode cL_isSettled 34 = .ok (.ldc2_w 10, 3) := by decide +kernel
theorem dL_isSettled_37 : decode cL_isSettled 37 = .ok (.aload_n 0, 1) := by decide +kernel
theorem dL_isSettled_38 : decode cL_isSettled 38 = .ok (.iload_n 2, 1) := by decide +kernel
theorem dL_isSettled_39 : decode cL_isSettled 39 = .ok (.invokevirtual 52, 3) := by decide +kernel
theorem dL_isSettled_42 : decode cL_isSettled 42 = .ok (.lmul, 1) := by decide +kernel
theorem dL_isSettled_43 : decode cL_isSettled 43 = .ok (.aload_n 0, 1) := by decide +kernel
theorem dL_isSettled_44 : decode cL_isSettled 44 = .ok (.iload_n 2, 1) := by decide +kernel
theorem dL_isSettled_45 : decode cL_isSettled 45 = .ok (.iconst 0, 1) := by decide +kernel
theorem dL_isSettled_46 : decode cL_isSettled 46 = .ok (.invokevirtual 71, 3) := by decide +kernel
theorem dL_isSettled_49 : decode cL_isSettled 49 = .ok (.i2l, 1) := by decide +kernel
theorem dL_isSettled_50 : decode cL_isSettled 50 = .ok (.lload_n 3, 1) := by decide +kernel
theorem dL_isSettled_51 : decode cL_isSettled 51 = .ok (.lmul, 1) := by decide +kernel
theorem dL_isSettled_52 : decode cL_isSettled 52 = .ok (.lsub, 1) := by decide +kernel
theorem dL_isSettled_53 : decode cL_isSettled 53 = .ok (.aload_n 0, 1) := by decide +kernel
theorem dL_isSettled_54 : decode cL_isSettled 54 = .ok (.iload_n 2, 1) := by decide +kernel
theorem dL_isSettled_55 : decode cL_isSettled 55 = .ok (.iconst 2, 1) := by decide +kernel
theorem dL_isSettled_56 : decode cL_isSettled 56 = .ok (.invokevirtual 71, 3) := by decide +kernel
theorem dL_isSettled_59 : decode cL_isSettled 59 = .ok (.i2l, 1) := by decide +kernel
theorem dL_isSettled_60 : decode cL_isSettled 60 = .ok (.lload 5, 2) := by decide +kernel
theorem dL_isSettled_62 : decode cL_isSettled 62 = .ok (.lmul, 1) := by decide +kernel
theorem dL_isSettled_63 : decode cL_isSettled 63 = .ok (.lsub, 1) := by decide +kernel
theorem dL_isSettled_64 : decode cL_isSettled 64 = .ok (.lcmp, 1) := by decide +kernel
theorem dL_isSettled_65 : decode cL_isSettled 65 = .ok (.ifCond .ne 7, 3) := by decide +kernel
theorem dL_isSettled_68 : decode cL_isSettled 68 = .ok (.iconst 1, 1) := by decide +kernel
theorem dL_isSettled_69 : decode cL_isSettled 69 = .ok (.goto 4, 3) := by decide +kernel
theorem dL_isSettled_72 : decode cL_isSettled 72 = .ok (.iconst 0, 1) := by decide +kernel
theorem dL_isSettled_73 : decode cL_isSettled 73 = .ok (.ireturn, 1) := by decide +kernel
theorem dL_modes_0 : decode cL_modes 0 = .ok (.aload_n 0, 1) := by decide +kernel
theorem dL_modes_1 : decode cL_modes 1 = .ok (.iload_n 3, 1) := by decide +kernel
theorem dL_modes_2 : decode cL_modes 2 = .ok (.invokevirtual 30, 3) := by decide +kernel
theorem dL_modes_5 : decode cL_modes 5 = .ok (.istore 5, 2) := by decide +kernel
theorem dL_modes_7 : decode cL_modes 7 = .ok (.bipush 20, 2) := by decide +kernel
theorem dL_modes_9 : decode cL_modes 9 = .ok (.iload_n 3, 1) := by decide +kernel
theorem dL_modes_10 : decode cL_modes 10 = .ok (.imul, 1) := by decide +kernel
theorem dL_modes_11 : decode cL_modes 11 = .ok (.istore 6, 2) := by decide +kernel
theorem dL_modes_13 : decode cL_modes 13 = .ok (.iload 5, 2) := by decide +kernel
theorem dL_modes_15 : decode cL_modes 15 = .ok (.iconst 3, 1) := by decide +kernel
theorem dL_modes_16 : decode cL_modes 16 = .ok (.if_icmp .ne 8, 3) := by decide +kernel
theorem dL_modes_19 : decode cL_modes 19 = .ok (.iload 4, 2) := by decide +kernel
theorem dL_modes_21 : decode cL_modes 21 = .ok (.ifCond .ne 21, 3) := by decide +kernel
theorem dL_modes_24 : decode cL_modes 24 = .ok (.iload 4, 2) := by decide +kernel
theorem dL_modes_26 : decode cL_modes 26 = .ok (.iconst 2, 1) := by decide +kernel
theorem dL_modes_27 : decode cL_modes 27 = .ok (.if_icmp .ne 17, 3) := by decide +kernel
theorem dL_modes_30 : decode cL_modes 30 = .ok (.aload_n 1, 1) := by decide +kernel
theorem dL_modes_31 : decode cL_modes 31 = .ok (.iload 6, 2) := by decide +kernel
theorem dL_modes_33 : decode cL_modes 33 = .ok (.bipush 9, 2) := by decide +kernel
theorem dL_modes_35 : decode cL_modes 35 = .ok (.iadd, 1) := by decide +kernel
theorem dL_modes_36 : decode cL_modes 36 = .ok (.laload, 1) := by decide +kernel
theorem dL_modes_37 : decode cL_modes 37 = .ok (.lconst 0, 1) := by decide +kernel
theorem dL_modes_38 : decode cL_modes 38 = .ok (.lcmp, 1) := by decide +kernel
theorem dL_modes_39 : decode cL_modes 39 = .ok (.ifCond .ne 5, 3) := by decide +kernel
theorem dL_modes_42 : decode cL_modes 42 = .ok (.iconst 1, 1) := by decide +kernel
theorem dL_modes_43 : decode cL_modes 43 = .ok (.ireturn, 1) := by decide +kernel
theorem dL_modes_44 : decode cL_modes 44 = .ok (.aload_n 0, 1) := by decide +kernel
theorem dL_modes_45 : decode cL_modes 45 = .ok (.iload_n 3, 1) := by decide +kernel
theorem dL_modes_46 : decode cL_modes 46 = .ok (.iload 4, 2) := by decide +kernel
theorem dL_modes_48 : decode cL_modes 48 = .ok (.invokevirtual 119, 3) := by decide +kernel
theorem dL_modes_51 : decode cL_modes 51 = .ok (.iload 5, 2) := by decide +kernel
theorem dL_modes_53 : decode cL_modes 53 = .ok (.if_icmp .ne 17, 3) := by decide +kernel
theorem dL_modes_56 : decode cL_modes 56 = .ok (.aload_n 0, 1) := by decide +kernel
theorem dL_modes_57 : decode cL_modes 57 = .ok (.iload_n 3, 1) := by decide +kernel
theorem dL_modes_58 : decode cL_modes 58 = .ok (.invokevirtual 30, 3) := by decide +kernel
theorem dL_modes_61 : decode cL_modes 61 = .ok (.iload 4, 2) := by decide +kernel
theorem dL_modes_63 : decode cL_modes 63 = .ok (.if_icmp .ne 7, 3) := by decide +kernel
theorem dL_modes_66 : decode cL_modes 66 = .ok (.iconst 1, 1) := by decide +kernel
theorem dL_modes_67 : decode cL_modes 67 = .ok (.goto 4, 3) := by decide +kernel
theorem dL_modes_70 : decode cL_modes 70 = .ok (.iconst 0, 1) := by decide +kernel
theorem dL_modes_71 : decode cL_modes 71 = .ok (.istore 7, 2) := by decide +kernel
theorem dL_modes_73 : decode cL_modes 73 = .ok (.iload 5, 2) := by decide +kernel
theorem dL_modes_75 : decode cL_modes 75 = .ok (.ifCond .ne 67, 3) := by decide +kernel
theorem dL_modes_78 : decode cL_modes 78 = .ok (.iload 4, 2) := by decide +kernel
theorem dL_modes_80 : decode cL_modes 80 = .ok (.ifCond .le 62, 3) := by decide +kernel
theorem dL_modes_83 : decode cL_modes 83 = .ok (.aload_n 1, 1) := by decide +kernel
theorem dL_modes_84 : decode cL_modes 84 = .ok (.iload 6, 2) := by decide +kernel
theorem dL_modes_86 : decode cL_modes 86 = .ok (.bipush 15, 2) := by decide +kernel
theorem dL_modes_88 : decode cL_modes 88 = .ok (.iadd, 1) := by decide +kernel
theorem dL_modes_89 : decode cL_modes 89 = .ok (.iload 4, 2) := by decide +kernel
theorem dL_modes_91 : decode cL_modes 91 = .ok (.iconst 1, 1) := by decide +kernel
theorem dL_modes_92 : decode cL_modes 92 = .ok (.if_icmp .ne 7, 3) := by decide +kernel
theorem dL_modes_95 : decode cL_modes 95 = .ok (.lconst 1, 1) := by decide +kernel
theorem dL_modes_96 : decode cL_modes 96 = .ok (.goto 4, 3) := by decide +kernel
theorem dL_modes_99 : decode cL_modes 99 = .ok (.lconst 0, 1) := by decide +kernel
theorem dL_modes_100 : decode cL_modes 100 = .ok (.lastore, 1) := by decide +kernel
theorem dL_modes_101 : decode cL_modes 101 = .ok (.aload_n 1, 1) := by decide +kernel
theorem dL_modes_102 : decode cL_modes 102 = .ok (.iload 6, 2) := by decide +kernel
theorem dL_modes_104 : decode cL_modes 104 = .ok (.bipush 16, 2) := by decide +kernel
theorem dL_modes_106 : decode cL_modes 106 = .ok (.iadd, 1) := by decide +kernel
theorem dL_modes_107 : decode cL_modes 107 = .ok (.aload_n 0, 1) := by decide +kernel
theorem dL_modes_108 : decode cL_modes 108 = .ok (.iload_n 3, 1) := by decide +kernel
theorem dL_modes_109 : decode cL_modes 109 = .ok (.invokevirtual 52, 3) := by decide +kernel
theorem dL_modes_112 : decode cL_modes 112 = .ok (.lastore, 1) := by decide +kernel
theorem dL_modes_113 : decode cL_modes 113 = .ok (.aload_n 1, 1) := by decide +kernel
theorem dL_modes_114 : decode cL_modes 114 = .ok (.iload 6, 2) := by decide +kernel
theorem dL_modes_116 : decode cL_modes 116 = .ok (.bipush 14, 2) := by decide +kernel
theorem dL_modes_118 : decode cL_modes 118 = .ok (.iadd, 1) := by decide +kernel
theorem dL_modes_119 : decode cL_modes 119 = .ok (.lconst 0, 1) := by decide +kernel
theorem dL_modes_120 : decode cL_modes 120 = .ok (.lastore, 1) := by decide +kernel
theorem dL_modes_121 : decode cL_modes 121 = .ok (.iload 7, 2) := by decide +kernel
theorem dL_modes_123 : decode cL_modes 123 = .ok (.ifCond .eq 16, 3) := by decide +kernel
theorem dL_modes_126 : decode cL_modes 126 = .ok (.aload_n 0, 1) := by decide +kernel
theorem dL_modes_127 : decode cL_modes 127 = .ok (.aload_n 1, 1) := by decide +kernel
theorem dL_modes_128 : decode cL_modes 128 = .ok (.iload_n 3, 1) := by decide +kernel
theorem dL_modes_129 : decode cL_modes 129 = .ok (.invokestatic 122, 3) := by decide +kernel
theorem dL_modes_132 : decode cL_modes 132 = .ok (.ifCond .eq 7, 3) := by decide +kernel
theorem dL_modes_135 : decode cL_modes 135 = .ok (.iconst 1, 1) := by decide +kernel
theorem dL_modes_136 : decode cL_modes 136 = .ok (.goto 4, 3) := by decide +kernel
theorem dL_modes_139 : decode cL_modes 139 = .ok (.iconst 0, 1) := by decide +kernel
theorem dL_modes_140 : decode cL_modes 140 = .ok (.istore 7, 2) := by decide +kernel
theorem dL_modes_142 : decode cL_modes 142 = .ok (.iload 4, 2) := by decide +kernel
theorem dL_modes_144 : decode cL_modes 144 = .ok (.ifCond .ne 54, 3) := by decide +kernel
theorem dL_modes_147 : decode cL_modes 147 = .ok (.iload 5, 2) := by decide +kernel
theorem dL_modes_149 : decode cL_modes 149 = .ok (.ifCond .le 49, 3) := by decide +kernel
theorem dL_modes_152 : decode cL_modes 152 = .ok (.aload_n 1, 1) := by decide +kernel
theorem dL_modes_153 : decode cL_modes 153 = .ok (.iload 6, 2) := by decide +kernel
theorem dL_modes_155 : decode cL_modes 155 = .ok (.bipush 7, 2) := by decide +kernel
theorem dL_modes_157 : decode cL_modes 157 = .ok (.iadd, 1) := by decide +kernel
theorem dL_modes_158 : decode cL_modes 158 = .ok (.aload_n 0, 1) := by decide +kernel
theorem dL_modes_159 : decode cL_modes 159 = .ok (.iload_n 3, 1) := by decide +kernel
theorem dL_modes_160 : decode cL_modes 160 = .ok (.invokevirtual 52, 3) := by decide +kernel
theorem dL_modes_163 : decode cL_modes 163 = .ok (.lastore, 1) := by decide +kernel
theorem dL_modes_164 : decode cL_modes 164 = .ok (.aload_n 1, 1) := by decide +kernel
theorem dL_modes_165 : decode cL_modes 165 = .ok (.iload 6, 2) := by decide +kernel
theorem dL_modes_167 : decode cL_modes 167 = .ok (.bipush 15, 2) := by decide +kernel
theorem dL_modes_169 : decode cL_modes 169 = .ok (.iadd, 1) := by decide +kernel
theorem dL_modes_170 : decode cL_modes 170 = .ok (.lconst 0, 1) := by decide +kernel
theorem dL_modes_171 : decode cL_modes 171 = .ok (.lastore, 1) := by decide +kernel
theorem dL_modes_172 : decode cL_modes 172 = .ok (.iload 7, 2) := by decide +kernel
theorem dL_modes_174 : decode cL_modes 174 = .ok (.ifCond .eq 21, 3) := by decide +kernel
theorem dL_modes_177 : decode cL_modes 177 = .ok (.iload 5, 2) := by decide +kernel
theorem dL_modes_179 : decode cL_modes 179 = .ok (.iconst 3, 1) := by decide +kernel
theorem dL_modes_180 : decode cL_modes 180 = .ok (.if_icmp .ne 11, 3) := by decide +kernel
theorem dL_modes_183 : decode cL_modes 183 = .ok (.aload_n 0, 1) := by decide +kernel
theorem dL_modes_184 : decode cL_modes 184 = .ok (.iload_n 3, 1) := by decide +kernel
theorem dL_modes_185 : decode cL_modes 185 = .ok (.invokevirtual 39, 3) := by decide +kernel
theorem dL_modes_188 : decode cL_modes 188 = .ok (.ifCond .ne 7, 3) := by decide +kernel
theorem dL_modes_191 : decode cL_modes 191 = .ok (.iconst 1, 1) := by decide +kernel
theorem dL_modes_192 : decode cL_modes 192 = .ok (.goto 4, 3) := by decide +kernel
theorem dL_modes_195 : decode cL_modes 195 = .ok (.iconst 0, 1) := by decide +kernel
theorem dL_modes_196 : decode cL_modes 196 = .ok (.istore 7, 2) := by decide +kernel
theorem dL_modes_198 : decode cL_modes 198 = .ok (.iload 7, 2) := by decide +kernel
theorem dL_modes_200 : decode cL_modes 200 = .ok (.ireturn, 1) := by decide +kernel
theorem dL_gains_0 : decode cL_gains 0 = .ok (.aload_n 0, 1) := by decide +kernel
theorem dL_gains_1 : decode cL_gains 1 = .ok (.iload_n 3, 1) := by decide +kernel
theorem dL_gains_2 : decode cL_gains 2 = .ok (.invokevirtual 30, 3) := by decide +kernel
theorem dL_gains_5 : decode cL_gains 5 = .ok (.iconst 3, 1) := by decide +kernel
theorem dL_gains_6 : decode cL_gains 6 = .ok (.if_icmp .ne 5, 3) := by decide +kernel
theorem dL_gains_9 : decode cL_gains 9 = .ok (.iconst 1, 1) := by decide +kernel
theorem dL_gains_10 : decode cL_gains 10 = .ok (.ireturn, 1) := by decide +kernel
theorem dL_gains_11 : decode cL_gains 11 = .ok (.aload_n 0, 1) := by decide +kernel
theorem dL_gains_12 : decode cL_gains 12 = .ok (.iload_n 3, 1) := by decide +kernel
theorem dL_gains_13 : decode cL_gains 13 = .ok (.invokevirtual 46, 3) := by decide +kernel
theorem dL_gains_16 : decode cL_gains 16 = .ok (.aload_n 0, 1) := by decide +kernel
theorem dL_gains_17 : decode cL_gains 17 = .ok (.iload_n 3, 1) := by decide +kernel
theorem dL_gains_18 : decode cL_gains 18 = .ok (.invokevirtual 42, 3) := by decide +kernel
theorem dL_gains_21 : decode cL_gains 21 = .ok (.lsub, 1) := by decide +kernel
theorem dL_gains_22 : decode cL_gains 22 = .ok (.lstore 7, 2) := by decide +kernel
theorem dL_gains_24 : decode cL_gains 24 = .ok (.aload_n 1, 1) := by decide +kernel
theorem dL_gains_25 : decode cL_gains 25 = .ok (.bipush 20, 2) := by decide +kernel
theorem dL_gains_27 : decode cL_gains 27 = .ok (.iload_n 3, 1) := by decide +kernel
theorem dL_gains_28 : decode cL_gains 28 = .ok (.imul, 1) := by decide +kernel
theorem dL_gains_29 : decode cL_gains 29 = .ok (.bipush 10, 2) := by decide +kernel
theorem dL_gains_31 : decode cL_gains 31 = .ok (.iadd, 1) := by decide +kernel
theorem dL_gains_32 : decode cL_gains 32 = .ok (.laload, 1) := by decide +kernel
theorem dL_gains_33 : decode cL_gains 33 = .ok (.aload_n 0, 1) := by decide +kernel
theorem dL_gains_34 : decode cL_gains 34 = .ok (.iload_n 3, 1) := by decide +kernel
theorem dL_gains_35 : decode cL_gains 35 = .ok (.invokevirtual 42, 3) := by decide +kernel
theorem dL_gains_38 : decode cL_gains 38 = .ok (.lsub, 1) := by decide +kernel
theorem dL_gains_39 : decode cL_gains 39 = .ok (.lstore 9, 2) := by decide +kernel
theorem dL_gains_41 : decode cL_gains 41 = .ok (.aload_n 0, 1) := by decide +kernel
theorem dL_gains_42 : decode cL_gains 42 = .ok (.iload_n 3, 1) := by decide +kernel
theorem dL_gains_43 : decode cL_gains 43 = .ok (.invokevirtual 82, 3) := by decide +kernel
theorem dL_gains_46 : decode cL_gains 46 = .ok (.aload_n 0, 1) := by decide +kernel
theorem dL_gains_47 : decode cL_gains 47 = .ok (.iload_n 3, 1) := by decide +kernel
theorem dL_gains_48 : decode cL_gains 48 = .ok (.iconst 0, 1) := by decide +kernel
theorem dL_gains_49 : decode cL_gains 49 = .ok (.invokevirtual 71, 3) := by decide +kernel
theorem dL_gains_52 : decode cL_gains 52 = .ok (.i2l, 1) := by decide +kernel
theorem dL_gains_53 : decode cL_gains 53 = .ok (.lload 7, 2) := by decide +kernel
theorem dL_gains_55 : decode cL_gains 55 = .ok (.lmul, 1) := by decide +kernel
theorem dL_gains_56 : decode cL_gains 56 = .ok (.ladd, 1) := by decide +kernel
theorem dL_gains_57 : decode cL_gains 57 = .ok (.aload_n 0, 1) := by decide +kernel
theorem dL_gains_58 : decode cL_gains 58 = .ok (.iload_n 3, 1) := by decide +kernel
theorem dL_gains_59 : decode cL_gains 59 = .ok (.iconst 2, 1) := by decide +kernel
theorem dL_gains_60 : decode cL_gains 60 = .ok (.invokevirtual 71, 3) := by decide +kernel
theorem dL_gains_63 : decode cL_gains 63 = .ok (.i2l, 1) := by decide +kernel
theorem dL_gains_64 : decode cL_gains 64 = .ok (.lload 9, 2) := by decide +kernel
theorem dL_gains_66 : decode cL_gains 66 = .ok (.lmul, 1) := by decide +kernel
theorem dL_gains_67 : decode cL_gains 67 = .ok (.ladd, 1) := by decide +kernel
theorem dL_gains_68 : decode cL_gains 68 = .ok (.lstore 11, 2) := by decide +kernel
theorem dL_gains_70 : decode cL_gains 70 = .ok (.aload_n 2, 1) := by decide +kernel
theorem dL_gains_71 : decode cL_gains 71 = .ok (.iload_n 3, 1) := by decide +kernel
theorem dL_gains_72 : decode cL_gains 72 = .ok (.iaload, 1) := by decide +kernel
theorem dL_gains_73 : decode cL_gains 73 = .ok (.istore 13, 2) := by decide +kernel
theorem dL_gains_75 : decode cL_gains 75 = .ok (.aload_n 2, 1) := by decide +kernel
theorem dL_gains_76 : decode cL_gains 76 = .ok (.iload_n 3, 1) := by decide +kernel
theorem dL_gains_77 : decode cL_gains 77 = .ok (.iconst 0, 1) := by decide +kernel
theorem dL_gains_78 : decode cL_gains 78 = .ok (.iastore, 1) := by decide +kernel
theorem dL_gains_79 : decode cL_gains 79 = .ok (.aload_n 1, 1) := by decide +kernel
theorem dL_gains_80 : decode cL_gains 80 = .ok (.bipush 20, 2) := by decide +kernel
theorem dL_gains_82 : decode cL_gains 82 = .ok (.iload_n 3, 1) := by decide +kernel
theorem dL_gains_83 : decode cL_gains 83 = .ok (.imul, 1) := by decide +kernel
theorem dL_gains_84 : decode cL_gains 84 = .ok (.bipush 14, 2) := by decide +kernel
theorem dL_gains_86 : decode cL_gains 86 = .ok (.iadd, 1) := by decide +kernel
theorem dL_gains_87 : decode cL_gains 87 = .ok (.lconst 0, 1) := by decide +kernel
theorem dL_gains_88 : decode cL_gains 88 = .ok (.lastore, 1) := by decide +kernel
theorem dL_gains_89 : decode cL_gains 89 = .ok (.aload_n 0, 1) := by decide +kernel
theorem dL_gains_90 : decode cL_gains 90 = .ok (.iload_n 3, 1) := by decide +kernel
theorem dL_gains_91 : decode cL_gains 91 = .ok (.iload 4, 2) := by decide +kernel
theorem dL_gains_93 : decode cL_gains 93 = .ok (.iload 5, 2) := by decide +kernel
theorem dL_gains_95 : decode cL_gains 95 = .ok (.iload 6, 2) := by decide +kernel
theorem dL_gains_97 : decode cL_gains 97 = .ok (.invokevirtual 126, 3) := by decide +kernel
theorem dL_gains_100 : decode cL_gains 100 = .ok (.iload 13, 2) := by decide +kernel
theorem dL_gains_102 : decode cL_gains 102 = .ok (.if_icmp .ne 43, 3) := by decide +kernel
theorem dL_gains_105 : decode cL_gains 105 = .ok (.aload_n 0, 1) := by decide +kernel
theorem dL_gains_106 : decode cL_gains 106 = .ok (.iload_n 3, 1) := by decide +kernel
theorem dL_gains_107 : decode cL_gains 107 = .ok (.iconst 1, 1) := by decide +kernel
theorem dL_gains_108 : decode cL_gains 108 = .ok (.invokevirtual 71, 3) := by decide +kernel
theorem dL_gains_111 : decode cL_gains 111 = .ok (.iload 5, 2) := by decide +kernel
theorem dL_gains_113 : decode cL_gains 113 = .ok (.if_icmp .ne 32, 3) := by decide +kernel
theorem dL_gains_116 : decode cL_gains 116 = .ok (.aload_n 0, 1) := by decide +kernel
theorem dL_gains_117 : decode cL_gains 117 = .ok (.iload_n 3, 1) := by decide +kernel
theorem dL_gains_118 : decode cL_gains 118 = .ok (.invokevirtual 82, 3) := by decide +kernel
theorem dL_gains_121 : decode cL_gains 121 = .ok (.iload 4, 2) := by decide +kernel
theorem dL_gains_123 : decode cL_gains 123 = .ok (.i2l, 1) := by decide +kernel
theorem dL_gains_124 : decode cL_gains 124 = .ok (.lload 7, 2) := by decide +kernel
theorem dL_gains_126 : decode cL_gains 126 = .ok (.lmul, 1) := by decide +kernel
theorem dL_gains_127 : decode cL_gains 127 = .ok (.ladd, 1) := by decide +kernel
theorem dL_gains_128 : decode cL_gains 128 = .ok (.iload 6, 2) := by decide +kernel
theorem dL_gains_130 : decode cL_gains 130 = .ok (.i2l, 1) := by decide +kernel
theorem dL_gains_131 : decode cL_gains 131 = .ok (.lload 9, 2) := by decide +kernel
theorem dL_gains_133 : decode cL_gains 133 = .ok (.lmul, 1) := by decide +kernel
theorem dL_gains_134 : decode cL_gains 134 = .ok (.ladd, 1) := by decide +kernel
theorem dL_gains_135 : decode cL_gains 135 = .ok (.lload 11, 2) := by decide +kernel
theorem dL_gains_137 : decode cL_gains 137 = .ok (.lcmp, 1) := by decide +kernel
theorem dL_gains_138 : decode cL_gains 138 = .ok (.ifCond .ne 7, 3) := by decide +kernel
theorem dL_gains_141 : decode cL_gains 141 = .ok (.iconst 1, 1) := by decide +kernel
theorem dL_gains_142 : decode cL_gains 142 = .ok (.goto 4, 3) := by decide +kernel
theorem dL_gains_145 : decode cL_gains 145 = .ok (.iconst 0, 1) := by decide +kernel
theorem dL_gains_146 : decode cL_gains 146 = .ok (.ireturn, 1) := by decide +kernel
theorem dL_step_0 : decode cL_step 0 = .ok (.iload_n 2, 1) := by decide +kernel
theorem dL_step_1 : decode cL_step 1 = .ok (.iconst 3, 1) := by decide +kernel
theorem dL_step_2 : decode cL_step 2 = .ok (.irem, 1) := by decide +kernel
theorem dL_step_3 : decode cL_step 3 = .ok (.istore 7, 2) := by decide +kernel
theorem dL_step_5 : decode cL_step 5 = .ok (.bipush 20, 2) := by decide +kernel
theorem dL_step_7 : decode cL_step 7 = .ok (.iload 7, 2) := by decide +kernel
theorem dL_step_9 : decode cL_step 9 = .ok (.imul, 1) := by decide +kernel
theorem dL_step_10 : decode cL_step 10 = .ok (.istore 8, 2) := by decide +kernel
theorem dL_step_12 : decode cL_step 12 = .ok (.iload_n 1, 1) := by decide +kernel
theorem dL_step_13 : decode cL_step 13 = .ok (.tableswitch 997 0 9 #[55, 184, 255, 334, 516, 595, 618, 694, 761, 850], 55) := by decide +kernel
theorem dL_step_68 : decode cL_step 68 = .ok (.aload 4, 2) := by decide +kernel
theorem dL_step_70 : decode cL_step 70 = .ok (.iload 8, 2) := by decide +kernel
theorem dL_step_72 : decode cL_step 72 = .ok (.iload_n 3, 1) := by decide +kernel
theorem dL_step_73 : decode cL_step 73 = .ok (.sipush 1900, 3) := by decide +kernel
theorem dL_step_76 : decode cL_step 76 = .ok (.irem, 1) := by decide +kernel
theorem dL_step_77 : decode cL_step 77 = .ok (.sipush 900, 3) := by decide +kernel
theorem dL_step_80 : decode cL_step 80 = .ok (.isub, 1) := by decide +kernel
theorem dL_step_81 : decode cL_step 81 = .ok (.i2l, 1) := by decide +kernel
theorem dL_step_82 : decode cL_step 82 = .ok (.lastore, 1) := by decide +kernel
theorem dL_step_83 : decode cL_step 83 = .ok (.aload 4, 2) := by decide +kernel
theorem dL_step_85 : decode cL_step 85 = .ok (.iload 8, 2) := by decide +kernel
theorem dL_step_87 : decode cL_step 87 = .ok (.iconst 1, 1) := by decide +kernel
theorem dL_step_88 : decode cL_step 88 = .ok (.iadd, 1) := by decide +kernel
theorem dL_step_89 : decode cL_step 89 = .ok (.iload_n 2, 1) := by decide +kernel
theorem dL_step_90 : decode cL_step 90 = .ok (.iconst 3, 1) := by decide +kernel
theorem dL_step_91 : decode cL_step 91 = .ok (.idiv, 1) := by decide +kernel
theorem dL_step_92 : decode cL_step 92 = .ok (.sipush 301, 3) := by decide +kernel
theorem dL_step_95 : decode cL_step 95 = .ok (.irem, 1) := by decide +kernel
theorem dL_step_96 : decode cL_step 96 = .ok (.sipush 150, 3) := by decide +kernel
theorem dL_step_99 : decode cL_step 99 = .ok (.isub, 1) := by decide +kernel
theorem dL_step_100 : decode cL_step 100 = .ok (.i2l, 1) := by decide +kernel
theorem dL_step_101 : decode cL_step 101 = .ok (.lastore, 1) := by decide +kernel
theorem dL_step_102 : decode cL_step 102 = .ok (.aload 4, 2) := by decide +kernel
theorem dL_step_104 : decode cL_step 104 = .ok (.iload 8, 2) := by decide +kernel
theorem dL_step_106 : decode cL_step 106 = .ok (.iconst 2, 1) := by decide +kernel
theorem dL_step_107 : decode cL_step 107 = .ok (.iadd, 1) := by decide +kernel
theorem dL_step_108 : decode cL_step 108 = .ok (.iload_n 3, 1) := by decide +kernel
theorem dL_step_109 : decode cL_step 109 = .ok (.iconst 3, 1) := by decide +kernel
theorem dL_step_110 : decode cL_step 110 = .ok (.irem, 1) := by decide +kernel
theorem dL_step_111 : decode cL_step 111 = .ok (.ifCond .ne 19, 3) := by decide +kernel
theorem dL_step_114 : decode cL_step 114 = .ok (.iload_n 2, 1) := by decide +kernel
theorem dL_step_115 : decode cL_step 115 = .ok (.bipush 9, 2) := by decide +kernel
theorem dL_step_117 : decode cL_step 117 = .ok (.idiv, 1) := by decide +kernel
theorem dL_step_118 : decode cL_step 118 = .ok (.sipush 4001, 3) := by decide +kernel
theorem dL_step_121 : decode cL_step 121 = .ok (.irem, 1) := by decide +kernel
theorem dL_step_122 : decode cL_step 122 = .ok (.sipush 2000, 3) := by decide +kernel
theorem dL_step_125 : decode cL_step 125 = .ok (.isub, 1) := by decide +kernel
theorem dL_step_126 : decode cL_step 126 = .ok (.i2l, 1) := by decide +kernel
theorem dL_step_127 : decode cL_step 127 = .ok (.goto 15, 3) := by decide +kernel
theorem dL_step_130 : decode cL_step 130 = .ok (.bipush 100, 2) := by decide +kernel
theorem dL_step_132 : decode cL_step 132 = .ok (.iload_n 2, 1) := by decide +kernel
theorem dL_step_133 : decode cL_step 133 = .ok (.bipush 9, 2) := by decide +kernel
theorem dL_step_135 : decode cL_step 135 = .ok (.idiv, 1) := by decide +kernel
theorem dL_step_136 : decode cL_step 136 = .ok (.sipush 900, 3) := by decide +kernel
theorem dL_step_139 : decode cL_step 139 = .ok (.irem, 1) := by decide +kernel
theorem dL_step_140 : decode cL_step 140 = .ok (.iadd, 1) := by decide +kernel
theorem dL_step_141 : decode cL_step 141 = .ok (.i2l, 1) := by decide +kernel
theorem dL_step_142 : decode cL_step 142 = .ok (.lastore, 1) := by decide +kernel
theorem dL_step_143 : decode cL_step 143 = .ok (.aload 4, 2) := by decide +kernel
theorem dL_step_145 : decode cL_step 145 = .ok (.iload 8, 2) := by decide +kernel
theorem dL_step_147 : decode cL_step 147 = .ok (.iconst 3, 1) := by decide +kernel
theorem dL_step_148 : decode cL_step 148 = .ok (.iadd, 1) := by decide +kernel
theorem dL_step_149 : decode cL_step 149 = .ok (.iload_n 3, 1) := by decide +kernel
theorem dL_step_150 : decode cL_step 150 = .ok (.sipush 1900, 3) := by decide +kernel
theorem dL_step_153 : decode cL_step 153 = .ok (.idiv, 1) := by decide +kernel
theorem dL_step_154 : decode cL_step 154 = .ok (.bipush 11, 2) := by decide +kernel
theorem dL_step_156 : decode cL_step 156 = .ok (.irem, 1) := by decide +kernel
theorem dL_step_157 : decode cL_step 157 = .ok (.i2l, 1) := by decide +kernel
theorem dL_step_158 : decode cL_step 158 = .ok (.lastore, 1) := by decide +kernel
theorem dL_step_159 : decode cL_step 159 = .ok (.aload_n 0, 1) := by decide +kernel
theorem dL_step_160 : decode cL_step 160 = .ok (.iload 7, 2) := by decide +kernel
theorem dL_step_162 : decode cL_step 162 = .ok (.aload 4, 2) := by decide +kernel
theorem dL_step_164 : decode cL_step 164 = .ok (.iload 8, 2) := by decide +kernel
theorem dL_step_166 : decode cL_step 166 = .ok (.laload, 1) := by decide +kernel
theorem dL_step_167 : decode cL_step 167 = .ok (.l2i, 1) := by decide +kernel
theorem dL_step_168 : decode cL_step 168 = .ok (.aload 4, 2) := by decide +kernel
theorem dL_step_170 : decode cL_step 170 = .ok (.iload 8, 2) := by decide +kernel
theorem dL_step_172 : decode cL_step 172 = .ok (.iconst 1, 1) := by decide +kernel
theorem dL_step_173 : decode cL_step 173 = .ok (.iadd, 1) := by decide +kernel
theorem dL_step_174 : decode cL_step 174 = .ok (.laload, 1) := by decide +kernel
theorem dL_step_175 : decode cL_step 175 = .ok (.l2i, 1) := by decide +kernel
theorem dL_step_176 : decode cL_step 176 = .ok (.aload 4, 2) := by decide +kernel
theorem dL_step_178 : decode cL_step 178 = .ok (.iload 8, 2) := by decide +kernel
theorem dL_step_180 : decode cL_step 180 = .ok (.iconst 2, 1) := by decide +kernel
theorem dL_step_181 : decode cL_step 181 = .ok (.iadd, 1) := by decide +kernel
theorem dL_step_182 : decode cL_step 182 = .ok (.laload, 1) := by decide +kernel
theorem dL_step_183 : decode cL_step 183 = .ok (.l2i, 1) := by decide +kernel
theorem dL_step_184 : decode cL_step 184 = .ok (.aload 4, 2) := by decide +kernel
theorem dL_step_186 : decode cL_step 186 = .ok (.iload 8, 2) := by decide +kernel
theorem dL_step_188 : decode cL_step 188 = .ok (.iconst 3, 1) := by decide +kernel
theorem dL_step_189 : decode cL_step 189 = .ok (.iadd, 1) := by decide +kernel
theorem dL_step_190 : decode cL_step 190 = .ok (.laload, 1) := by decide +kernel
theorem dL_step_191 : decode cL_step 191 = .ok (.l2i, 1) := by decide +kernel
theorem dL_step_192 : decode cL_step 192 = .ok (.invokevirtual 130, 3) := by decide +kernel
theorem dL_step_195 : decode cL_step 195 = .ok (.iconst 1, 1) := by decide +kernel
theorem dL_step_196 : decode cL_step 196 = .ok (.ireturn, 1) := by decide +kernel
theorem dL_step_197 : decode cL_step 197 = .ok (.aload 4, 2) := by decide +kernel
theorem dL_step_199 : decode cL_step 199 = .ok (.iload 8, 2) := by decide +kernel
theorem dL_step_201 : decode cL_step 201 = .ok (.iconst 4, 1) := by decide +kernel
theorem dL_step_202 : decode cL_step 202 = .ok (.iadd, 1) := by decide +kernel
theorem dL_step_203 : decode cL_step 203 = .ok (.laload, 1) := by decide +kernel
theorem dL_step_204 : decode cL_step 204 = .ok (.lstore 9, 2) := by decide +kernel
theorem dL_step_206 : decode cL_step 206 = .ok (.aload 4, 2) := by decide +kernel
theorem dL_step_208 : decode cL_step 208 = .ok (.iload 8, 2) := by decide +kernel
theorem dL_step_210 : decode cL_step 210 = .ok (.iconst 4, 1) := by decide +kernel
theorem dL_step_211 : decode cL_step 211 = .ok (.iadd, 1) := by decide +kernel
theorem dL_step_212 : decode cL_step 212 = .ok (.iload_n 3, 1) := by decide +kernel
theorem dL_step_213 : decode cL_step 213 = .ok (.iconst 3, 1) := by decide +kernel
theorem dL_step_214 : decode cL_step 214 = .ok (.irem, 1) := by decide +kernel
theorem dL_step_215 : decode cL_step 215 = .ok (.ifCond .ne 16, 3) := by decide +kernel
theorem dL_step_218 : decode cL_step 218 = .ok (.iload_n 3, 1) := by decide +kernel
theorem dL_step_219 : decode cL_step 219 = .ok (.sipush 20001, 3) := by decide +kernel
theorem dL_step_222 : decode cL_step 222 = .ok (.irem, 1) := by decide +kernel
theorem dL_step_223 : decode cL_step 223 = .ok (.sipush 10000, 3) := by decide +kernel
theorem dL_step_226 : decode cL_step 226 = .ok (.isub, 1) := by decide +kernel
theorem dL_step_227 : decode cL_step 227 = .ok (.i2l, 1) := by decide +kernel
theorem dL_step_228 : decode cL_step 228 = .ok (.goto 12, 3) := by decide +kernel
theorem dL_step_231 : decode cL_step 231 = .ok (.iload_n 3, 1) := by decide +kernel
theorem dL_step_232 : decode cL_step 232 = .ok (.sipush 201, 3) := by decide +kernel
theorem dL_step_235 : decode cL_step 235 = .ok (.irem, 1) := by decide +kernel
theorem dL_step_236 : decode cL_step 236 = .ok (.bipush 100, 2) := by decide +kernel
theorem dL_step_238 : decode cL_step 238 = .ok (.isub, 1) := by decide +kernel
theorem dL_step_239 : decode cL_step 239 = .ok (.i2l, 1) := by decide +kernel
theorem dL_step_240 : decode cL_step 240 = .ok (.lastore, 1) := by decide +kernel
theorem dL_step_241 : decode cL_step 241 = .ok (.aload_n 0, 1) := by decide +kernel
theorem dL_step_242 : decode cL_step 242 = .ok (.iload 7, 2) := by decide +kernel
theorem dL_step_244 : decode cL_step 244 = .ok (.aload 4, 2) := by decide +kernel
theorem dL_step_246 : decode cL_step 246 = .ok (.iload 8, 2) := by decide +kernel
theorem dL_step_248 : decode cL_step 248 = .ok (.iconst 4, 1) := by decide +kernel
theorem dL_step_249 : decode cL_step 249 = .ok (.iadd, 1) := by decide +kernel
theorem dL_step_250 : decode cL_step 250 = .ok (.laload, 1) := by decide +kernel
theorem dL_step_251 : decode cL_step 251 = .ok (.l2i, 1) := by decide +kernel
theorem dL_step_252 : decode cL_step 252 = .ok (.invokevirtual 134, 3) := by decide +kernel
theorem dL_step_255 : decode cL_step 255 = .ok (.i2l, 1) := by decide +kernel
theorem dL_step_256 : decode cL_step 256 = .ok (.lload 9, 2) := by decide +kernel
theorem dL_step_258 : decode cL_step 258 = .ok (.lcmp, 1) := by decide +kernel
theorem dL_step_259 : decode cL_step 259 = .ok (.ifCond .ne 7, 3) := by decide +kernel
theorem dL_step_262 : decode cL_step 262 = .ok (.iconst 1, 1) := by decide +kernel
theorem dL_step_263 : decode cL_step 263 = .ok (.goto 4, 3) := by decide +kernel
theorem dL_step_266 : decode cL_step 266 = .ok (.iconst 0, 1) := by decide +kernel
theorem dL_step_267 : decode cL_step 267 = .ok (.ireturn, 1) := by decide +kernel
theorem dL_step_268 : decode cL_step 268 = .ok (.aload_n 0, 1) := by decide +kernel
theorem dL_step_269 : decode cL_step 269 = .ok (.aload 4, 2) := by decide +kernel
theorem dL_step_271 : decode cL_step 271 = .ok (.aload 6, 2) := by decide +kernel
theorem dL_step_273 : decode cL_step 273 = .ok (.iload 7, 2) := by decide +kernel
theorem dL_step_275 : decode cL_step 275 = .ok (.iload_n 3, 1) := by decide +kernel
theorem dL_step_276 : decode cL_step 276 = .ok (.iconst 5, 1) := by decide +kernel
theorem dL_step_277 : decode cL_step 277 = .ok (.irem, 1) := by decide +kernel
theorem dL_step_278 : decode cL_step 278 = .ok (.ifCond .ne 14, 3) := by decide +kernel
theorem dL_step_281 : decode cL_step 281 = .ok (.iload_n 3, 1) := by decide +kernel
theorem dL_step_282 : decode cL_step 282 = .ok (.ldc 137, 2) := by decide +kernel
theorem dL_step_284 : decode cL_step 284 = .ok (.irem, 1) := by decide +kernel
theorem dL_step_285 : decode cL_step 285 = .ok (.sipush 20000, 3) := by decide +kernel
theorem dL_step_288 : decode cL_step 288 = .ok (.isub, 1) := by decide +kernel
theorem dL_step_289 : decode cL_step 289 = .ok (.goto 8, 3) := by decide +kernel
theorem dL_step_292 : decode cL_step 292 = .ok (.iload_n 3, 1) := by decide +kernel
theorem dL_step_293 : decode cL_step 293 = .ok (.sipush 3000, 3) := by decide +kernel
theorem dL_step_296 : decode cL_step 296 = .ok (.irem, 1) := by decide +kernel
theorem dL_step_297 : decode cL_step 297 = .ok (.iload_n 2, 1) := by decide +kernel
theorem dL_step_298 : decode cL_step 298 = .ok (.bipush 7, 2) := by decide +kernel
theorem dL_step_300 : decode cL_step 300 = .ok (.irem, 1) := by decide +kernel
theorem dL_step_301 : decode cL_step 301 = .ok (.ifCond .ne 15, 3) := by decide +kernel
theorem dL_step_304 : decode cL_step 304 = .ok (.iload_n 2, 1) := by decide +kernel
theorem dL_step_305 : decode cL_step 305 = .ok (.sipush 10001, 3) := by decide +kernel
theorem dL_step_308 : decode cL_step 308 = .ok (.irem, 1) := by decide +kernel
theorem dL_step_309 : decode cL_step 309 = .ok (.sipush 5000, 3) := by decide +kernel
theorem dL_step_312 : decode cL_step 312 = .ok (.isub, 1) := by decide +kernel
theorem dL_step_313 : decode cL_step 313 = .ok (.goto 8, 3) := by decide +kernel
theorem dL_step_316 : decode cL_step 316 = .ok (.iload_n 2, 1) := by decide +kernel
theorem dL_step_317 : decode cL_step 317 = .ok (.sipush 400, 3) := by decide +kernel
theorem dL_step_320 : decode cL_step 320 = .ok (.irem, 1) := by decide +kernel
theorem dL_step_321 : decode cL_step 321 = .ok (.iload_n 2, 1) := by decide +kernel
theorem dL_step_322 : decode cL_step 322 = .ok (.iconst 2, 1) := by decide +kernel
theorem dL_step_323 : decode cL_step 323 = .ok (.irem, 1) := by decide +kernel
theorem dL_step_324 : decode cL_step 324 = .ok (.ifCond .ne 7, 3) := by decide +kernel
theorem dL_step_327 : decode cL_step 327 = .ok (.iconst 0, 1) := by decide +kernel
theorem dL_step_328 : decode cL_step 328 = .ok (.goto 15, 3) := by decide +kernel
theorem dL_step_331 : decode cL_step 331 = .ok (.iload_n 3, 1) := by decide +kernel
theorem dL_step_332 : decode cL_step 332 = .ok (.bipush 9, 2) := by decide +kernel
theorem dL_step_334 : decode cL_step 334 = .ok (.idiv, 1) := by decide +kernel
theorem dL_step_335 : decode cL_step 335 = .ok (.sipush 9001, 3) := by decide +kernel
theorem dL_step_338 : decode cL_step 338 = .ok (.irem, 1) := by decide +kernel
theorem dL_step_339 : decode cL_step 339 = .ok (.sipush 4000, 3) := by decide +kernel
theorem dL_step_342 : decode cL_step 342 = .ok (.isub, 1) := by decide +kernel
theorem dL_step_343 : decode cL_step 343 = .ok (.invokestatic 138, 3) := by decide +kernel
theorem dL_step_346 : decode cL_step 346 = .ok (.ireturn, 1) := by decide +kernel
theorem dL_step_347 : decode cL_step 347 = .ok (.aload 6, 2) := by decide +kernel
theorem dL_step_349 : decode cL_step 349 = .ok (.iload 7, 2) := by decide +kernel
theorem dL_step_351 : decode cL_step 351 = .ok (.iaload, 1) := by decide +kernel
theorem dL_step_352 : decode cL_step 352 = .ok (.iconst 5, 1) := by decide +kernel
theorem dL_step_353 : decode cL_step 353 = .ok (.if_icmp .ne 5, 3) := by decide +kernel
theorem dL_step_356 : decode cL_step 356 = .ok (.iconst 1, 1) := by decide +kernel
theorem dL_step_357 : decode cL_step 357 = .ok (.ireturn, 1) := by decide +kernel
theorem dL_step_358 : decode cL_step 358 = .ok (.bipush 20, 2) := by decide +kernel
theorem dL_step_360 : decode cL_step 360 = .ok (.iload 7, 2) := by decide +kernel
theorem dL_step_362 : decode cL_step 362 = .ok (.imul, 1) := by decide +kernel
theorem dL_step_363 : decode cL_step 363 = .ok (.iconst 4, 1) := by decide +kernel
theorem dL_step_364 : decode cL_step 364 = .ok (.aload 6, 2) := by decide +kernel
theorem dL_step_366 : decode cL_step 366 = .ok (.iload 7, 2) := by decide +kernel
theorem dL_step_368 : decode cL_step 368 = .ok (.iaload, 1) := by decide +kernel
theorem dL_step_369 : decode cL_step 369 = .ok (.imul, 1) := by decide +kernel
theorem dL_step_370 : decode cL_step 370 = .ok (.iadd, 1) := by decide +kernel
theorem dL_step_371 : decode cL_step 371 = .ok (.istore 11, 2) := by decide +kernel
theorem dL_step_373 : decode cL_step 373 = .ok (.aload 5, 2) := by decide +kernel
theorem dL_step_375 : decode cL_step 375 = .ok (.iload 11, 2) := by decide +kernel
theorem dL_step_377 : decode cL_step 377 = .ok (.aload 6, 2) := by decide +kernel
theorem dL_step_379 : decode cL_step 379 = .ok (.iload 7, 2) := by decide +kernel
theorem dL_step_381 : decode cL_step 381 = .ok (.iaload, 1) := by decide +kernel
theorem dL_step_382 : decode cL_step 382 = .ok (.ifCond .ne 9, 3) := by decide +kernel
theorem dL_step_385 : decode cL_step 385 = .ok (.ldc2_w 142, 3) := by decide +kernel
theorem dL_step_388 : decode cL_step 388 = .ok (.goto 10, 3) := by decide +kernel
theorem dL_step_391 : decode cL_step 391 = .ok (.aload 5, 2) := by decide +kernel
theorem dL_step_393 : decode cL_step 393 = .ok (.iload 11, 2) := by decide +kernel
theorem dL_step_395 : decode cL_step 395 = .ok (.iconst 4, 1) := by decide +kernel
theorem dL_step_396 : decode cL_step 396 = .ok (.isub, 1) := by decide +kernel
theorem dL_step_397 : decode cL_step 397 = .ok (.laload, 1) := by decide +kernel
theorem dL_step_398 : decode cL_step 398 = .ok (.lconst 1, 1) := by decide +kernel
theorem dL_step_399 : decode cL_step 399 = .ok (.ladd, 1) := by decide +kernel
theorem dL_step_400 : decode cL_step 400 = .ok (.iload_n 3, 1) := by decide +kernel
theorem dL_step_401 : decode cL_step 401 = .ok (.sipush 9000, 3) := by decide +kernel
theorem dL_step_404 : decode cL_step 404 = .ok (.irem, 1) := by decide +kernel
theorem dL_step_405 : decode cL_step 405 = .ok (.i2l, 1) := by decide +kernel
theorem dL_step_406 : decode cL_step 406 = .ok (.ladd, 1) := by decide +kernel
theorem dL_step_407 : decode cL_step 407 = .ok (.lastore, 1) := by decide +kernel
theorem dL_step_408 : decode cL_step 408 = .ok (.aload 5, 2) := by decide +kernel
theorem dL_step_410 : decode cL_step 410 = .ok (.iload 11, 2) := by decide +kernel
theorem dL_step_412 : decode cL_step 412 = .ok (.iconst 1, 1) := by decide +kernel
theorem dL_step_413 : decode cL_step 413 = .ok (.iadd, 1) := by decide +kernel
theorem dL_step_414 : decode cL_step 414 = .ok (.iload_n 2, 1) := by decide +kernel
theorem dL_step_415 : decode cL_step 415 = .ok (.sipush 4001, 3) := by decide +kernel
theorem dL_step_418 : decode cL_step 418 = .ok (.irem, 1) := by decide +kernel
theorem dL_step_419 : decode cL_step 419 = .ok (.sipush 1000, 3) := by decide +kernel
theorem dL_step_422 : decode cL_step 422 = .ok (.isub, 1) := by decide +kernel
theorem dL_step_423 : decode cL_step 423 = .ok (.i2l, 1) := by decide +kernel
theorem dL_step_424 : decode cL_step 424 = .ok (.lastore, 1) := by decide +kernel
theorem dL_step_425 : decode cL_step 425 = .ok (.aload 5, 2) := by decide +kernel
theorem dL_step_427 : decode cL_step 427 = .ok (.iload 11, 2) := by decide +kernel
theorem dL_step_429 : decode cL_step 429 = .ok (.iconst 2, 1) := by decide +kernel
theorem dL_step_430 : decode cL_step 430 = .ok (.iadd, 1) := by decide +kernel
theorem dL_step_431 : decode cL_step 431 = .ok (.iload_n 2, 1) := by decide +kernel
theorem dL_step_432 : decode cL_step 432 = .ok (.bipush 9, 2) := by decide +kernel
theorem dL_step_434 : decode cL_step 434 = .ok (.idiv, 1) := by decide +kernel
theorem dL_step_435 : decode cL_step 435 = .ok (.sipush 500, 3) := by decide +kernel
theorem dL_step_438 : decode cL_step 438 = .ok (.irem, 1) := by decide +kernel
theorem dL_step_439 : decode cL_step 439 = .ok (.i2l, 1) := by decide +kernel
theorem dL_step_440 : decode cL_step 440 = .ok (.lastore, 1) := by decide +kernel
theorem dL_step_441 : decode cL_step 441 = .ok (.aload 5, 2) := by decide +kernel
theorem dL_step_443 : decode cL_step 443 = .ok (.iload 11, 2) := by decide +kernel
theorem dL_step_445 : decode cL_step 445 = .ok (.iconst 3, 1) := by decide +kernel
theorem dL_step_446 : decode cL_step 446 = .ok (.iadd, 1) := by decide +kernel
theorem dL_step_447 : decode cL_step 447 = .ok (.iload_n 3, 1) := by decide +kernel
theorem dL_step_448 : decode cL_step 448 = .ok (.bipush 9, 2) := by decide +kernel
theorem dL_step_450 : decode cL_step 450 = .ok (.idiv, 1) := by decide +kernel
theorem dL_step_451 : decode cL_step 451 = .ok (.sipush 3001, 3) := by decide +kernel
theorem dL_step_454 : decode cL_step 454 = .ok (.irem, 1) := by decide +kernel
theorem dL_step_455 : decode cL_step 455 = .ok (.sipush 1500, 3) := by decide +kernel
theorem dL_step_458 : decode cL_step 458 = .ok (.isub, 1) := by decide +kernel
theorem dL_step_459 : decode cL_step 459 = .ok (.i2l, 1) := by decide +kernel
theorem dL_step_460 : decode cL_step 460 = .ok (.lastore, 1) := by decide +kernel
theorem dL_step_461 : decode cL_step 461 = .ok (.aload 6, 2) := by decide +kernel
theorem dL_step_463 : decode cL_step 463 = .ok (.iload 7, 2) := by decide +kernel
theorem dL_step_465 : decode cL_step 465 = .ok (.dup2, 1) := by decide +kernel
theorem dL_step_466 : decode cL_step 466 = .ok (.iaload, 1) := by decide +kernel
theorem dL_step_467 : decode cL_step 467 = .ok (.iconst 1, 1) := by decide +kernel
theorem dL_step_468 : decode cL_step 468 = .ok (.iadd, 1) := by decide +kernel
theorem dL_step_469 : decode cL_step 469 = .ok (.iastore, 1) := by decide +kernel
theorem dL_step_470 : decode cL_step 470 = .ok (.aload 4, 2) := by decide +kernel
theorem dL_step_472 : decode cL_step 472 = .ok (.iload 8, 2) := by decide +kernel
theorem dL_step_474 : decode cL_step 474 = .ok (.bipush 14, 2) := by decide +kernel
theorem dL_step_476 : decode cL_step 476 = .ok (.iadd, 1) := by decide +kernel
theorem dL_step_477 : decode cL_step 477 = .ok (.lconst 0, 1) := by decide +kernel
theorem dL_step_478 : decode cL_step 478 = .ok (.lastore, 1) := by decide +kernel
theorem dL_step_479 : decode cL_step 479 = .ok (.aload_n 0, 1) := by decide +kernel
theorem dL_step_480 : decode cL_step 480 = .ok (.iload 7, 2) := by decide +kernel
theorem dL_step_482 : decode cL_step 482 = .ok (.aload 5, 2) := by decide +kernel
theorem dL_step_484 : decode cL_step 484 = .ok (.iload 11, 2) := by decide +kernel
theorem dL_step_486 : decode cL_step 486 = .ok (.laload, 1) := by decide +kernel
theorem dL_step_487 : decode cL_step 487 = .ok (.l2i, 1) := by decide +kernel
theorem dL_step_488 : decode cL_step 488 = .ok (.aload 5, 2) := by decide +kernel
theorem dL_step_490 : decode cL_step 490 = .ok (.iload 11, 2) := by decide +kernel
theorem dL_step_492 : decode cL_step 492 = .ok (.iconst 1, 1) := by decide +kernel
theorem dL_step_493 : decode cL_step 493 = .ok (.iadd, 1) := by decide +kernel
theorem dL_step_494 : decode cL_step 494 = .ok (.laload, 1) := by decide +kernel
theorem dL_step_495 : decode cL_step 495 = .ok (.l2i, 1) := by decide +kernel
theorem dL_step_496 : decode cL_step 496 = .ok (.aload 5, 2) := by decide +kernel
theorem dL_step_498 : decode cL_step 498 = .ok (.iload 11, 2) := by decide +kernel
theorem dL_step_500 : decode cL_step 500 = .ok (.iconst 2, 1) := by decide +kernel
theorem dL_step_501 : decode cL_step 501 = .ok (.iadd, 1) := by decide +kernel
theorem dL_step_502 : decode cL_step 502 = .ok (.laload, 1) := by decide +kernel
theorem dL_step_503 : decode cL_step 503 = .ok (.l2i, 1) := by decide +kernel
theorem dL_step_504 : decode cL_step 504 = .ok (.aload 5, 2) := by decide +kernel
theorem dL_step_506 : decode cL_step 506 = .ok (.iload 11, 2) := by decide +kernel
theorem dL_step_508 : decode cL_step 508 = .ok (.iconst 3, 1) := by decide +kernel
theorem dL_step_509 : decode cL_step 509 = .ok (.iadd, 1) := by decide +kernel
theorem dL_step_510 : decode cL_step 510 = .ok (.laload, 1) := by decide +kernel
theorem dL_step_511 : decode cL_step 511 = .ok (.l2i, 1) := by decide +kernel
theorem dL_step_512 : decode cL_step 512 = .ok (.invokevirtual 144, 3) := by decide +kernel
theorem dL_step_515 : decode cL_step 515 = .ok (.aload 6, 2) := by decide +kernel
theorem dL_step_517 : decode cL_step 517 = .ok (.iload 7, 2) := by decide +kernel
theorem dL_step_519 : decode cL_step 519 = .ok (.iaload, 1) := by decide +kernel
theorem dL_step_520 : decode cL_step 520 = .ok (.if_icmp .ne 7, 3) := by decide +kernel
theorem dL_step_523 : decode cL_step 523 = .ok (.iconst 1, 1) := by decide +kernel
theorem dL_step_524 : decode cL_step 524 = .ok (.goto 4, 3) := by decide +kernel
theorem dL_step_527 : decode cL_step 527 = .ok (.iconst 0, 1) := by decide +kernel
theorem dL_step_528 : decode cL_step 528 = .ok (.ireturn, 1) := by decide +kernel
theorem dL_step_529 : decode cL_step 529 = .ok (.aload 4, 2) := by decide +kernel
theorem dL_step_531 : decode cL_step 531 = .ok (.iload 8, 2) := by decide +kernel
theorem dL_step_533 : decode cL_step 533 = .ok (.iconst 5, 1) := by decide +kernel
theorem dL_step_534 : decode cL_step 534 = .ok (.iadd, 1) := by decide +kernel
theorem dL_step_535 : decode cL_step 535 = .ok (.iload_n 3, 1) := by decide +kernel
theorem dL_step_536 : decode cL_step 536 = .ok (.iconst 4, 1) := by decide +kernel
theorem dL_step_537 : decode cL_step 537 = .ok (.irem, 1) := by decide +kernel
theorem dL_step_538 : decode cL_step 538 = .ok (.ifCond .ne 14, 3) := by decide +kernel
theorem dL_step_541 : decode cL_step 541 = .ok (.iload_n 3, 1) := by decide +kernel
theorem dL_step_542 : decode cL_step 542 = .ok (.ldc 148, 2) := by decide +kernel
theorem dL_step_544 : decode cL_step 544 = .ok (.irem, 1) := by decide +kernel
theorem dL_step_545 : decode cL_step 545 = .ok (.ldc 149, 2) := by decide +kernel
theorem dL_step_547 : decode cL_step 547 = .ok (.isub, 1) := by decide +kernel
theorem dL_step_548 : decode cL_step 548 = .ok (.i2l, 1) := by decide +kernel
theorem dL_step_549 : decode cL_step 549 = .ok (.goto 10, 3) := by decide +kernel
theorem dL_step_552 : decode cL_step 552 = .ok (.iload_n 3, 1) := by decide +kernel
theorem dL_step_553 : decode cL_step 553 = .ok (.ineg, 1) := by decide +kernel
theorem dL_step_554 : decode cL_step 554 = .ok (.sipush 4000, 3) := by decide +kernel
theorem dL_step_557 : decode cL_step 557 = .ok (.irem, 1) := by decide +kernel
theorem dL_step_558 : decode cL_step 558 = .ok (.i2l, 1) := by decide +kernel
theorem dL_step_559 : decode cL_step 559 = .ok (.lastore, 1) := by decide +kernel
theorem dL_step_560 : decode cL_step 560 = .ok (.aload 4, 2) := by decide +kernel
theorem dL_step_562 : decode cL_step 562 = .ok (.iload 8, 2) := by decide +kernel
theorem dL_step_564 : decode cL_step 564 = .ok (.bipush 6, 2) := by decide +kernel
theorem dL_step_566 : decode cL_step 566 = .ok (.iadd, 1) := by decide +kernel
theorem dL_step_567 : decode cL_step 567 = .ok (.aload 4, 2) := by decide +kernel
theorem dL_step_569 : decode cL_step 569 = .ok (.iload 8, 2) := by decide +kernel
theorem dL_step_571 : decode cL_step 571 = .ok (.iconst 5, 1) := by decide +kernel
theorem dL_step_572 : decode cL_step 572 = .ok (.iadd, 1) := by decide +kernel
theorem dL_step_573 : decode cL_step 573 = .ok (.laload, 1) := by decide +kernel
theorem dL_step_574 : decode cL_step 574 = .ok (.iload_n 2, 1) := by decide +kernel
theorem dL_step_575 : decode cL_step 575 = .ok (.iconst 3, 1) := by decide +kernel
theorem dL_step_576 : decode cL_step 576 = .ok (.idiv, 1) := by decide +kernel
theorem dL_step_577 : decode cL_step 577 = .ok (.ldc 150, 2) := by decide +kernel
theorem dL_step_579 : decode cL_step 579 = .ok (.irem, 1) := by decide +kernel
theorem dL_step_580 : decode cL_step 580 = .ok (.i2l, 1) := by decide +kernel
theorem dL_step_581 : decode cL_step 581 = .ok (.ladd, 1) := by decide +kernel
theorem dL_step_582 : decode cL_step 582 = .ok (.lastore, 1) := by decide +kernel
theorem dL_step_583 : decode cL_step 583 = .ok (.aload_n 0, 1) := by decide +kernel
theorem dL_step_584 : decode cL_step 584 = .ok (.iload 7, 2) := by decide +kernel
theorem dL_step_586 : decode cL_step 586 = .ok (.aload 4, 2) := by decide +kernel
theorem dL_step_588 : decode cL_step 588 = .ok (.iload 8, 2) := by decide +kernel
theorem dL_step_590 : decode cL_step 590 = .ok (.iconst 5, 1) := by decide +kernel
theorem dL_step_591 : decode cL_step 591 = .ok (.iadd, 1) := by decide +kernel
theorem dL_step_592 : decode cL_step 592 = .ok (.laload, 1) := by decide +kernel
theorem dL_step_593 : decode cL_step 593 = .ok (.l2i, 1) := by decide +kernel
theorem dL_step_594 : decode cL_step 594 = .ok (.aload 4, 2) := by decide +kernel
theorem dL_step_596 : decode cL_step 596 = .ok (.iload 8, 2) := by decide +kernel
theorem dL_step_598 : decode cL_step 598 = .ok (.bipush 6, 2) := by decide +kernel
theorem dL_step_600 : decode cL_step 600 = .ok (.iadd, 1) := by decide +kernel
theorem dL_step_601 : decode cL_step 601 = .ok (.laload, 1) := by decide +kernel
theorem dL_step_602 : decode cL_step 602 = .ok (.l2i, 1) := by decide +kernel
theorem dL_step_603 : decode cL_step 603 = .ok (.invokevirtual 151, 3) := by decide +kernel
theorem dL_step_606 : decode cL_step 606 = .ok (.iconst 1, 1) := by decide +kernel
theorem dL_step_607 : decode cL_step 607 = .ok (.ireturn, 1) := by decide +kernel
theorem dL_step_608 : decode cL_step 608 = .ok (.aload_n 0, 1) := by decide +kernel
theorem dL_step_609 : decode cL_step 609 = .ok (.iload 7, 2) := by decide +kernel
theorem dL_step_611 : decode cL_step 611 = .ok (.iload_n 3, 1) := by decide +kernel
theorem dL_step_612 : decode cL_step 612 = .ok (.iconst 3, 1) := by decide +kernel
theorem dL_step_613 : decode cL_step 613 = .ok (.irem, 1) := by decide +kernel
theorem dL_step_614 : decode cL_step 614 = .ok (.iload_n 2, 1) := by decide +kernel
theorem dL_step_615 : decode cL_step 615 = .ok (.sipush 1001, 3) := by decide +kernel
theorem dL_step_618 : decode cL_step 618 = .ok (.irem, 1) := by decide +kernel
theorem dL_step_619 : decode cL_step 619 = .ok (.invokevirtual 155, 3) := by decide +kernel
theorem dL_step_622 : decode cL_step 622 = .ok (.ifCond .lt 7, 3) := by decide +kernel
theorem dL_step_625 : decode cL_step 625 = .ok (.iconst 1, 1) := by decide +kernel
theorem dL_step_626 : decode cL_step 626 = .ok (.goto 4, 3) := by decide +kernel
theorem dL_step_629 : decode cL_step 629 = .ok (.iconst 0, 1) := by decide +kernel
theorem dL_step_630 : decode cL_step 630 = .ok (.ireturn, 1) := by decide +kernel
theorem dL_step_631 : decode cL_step 631 = .ok (.aload_n 0, 1) := by decide +kernel
theorem dL_step_632 : decode cL_step 632 = .ok (.iload 7, 2) := by decide +kernel
theorem dL_step_634 : decode cL_step 634 = .ok (.invokevirtual 46, 3) := by decide +kernel
theorem dL_step_637 : decode cL_step 637 = .ok (.lstore 12, 2) := by decide +kernel
theorem dL_step_639 : decode cL_step 639 = .ok (.aload 4, 2) := by decide +kernel
theorem dL_step_641 : decode cL_step 641 = .ok (.iload 8, 2) := by decide +kernel
theorem dL_step_643 : decode cL_step 643 = .ok (.bipush 15, 2) := by decide +kernel
theorem dL_step_645 : decode cL_step 645 = .ok (.iadd, 1) := by decide +kernel
theorem dL_step_646 : decode cL_step 646 = .ok (.aload_n 0, 1) := by decide +kernel
theorem dL_step_647 : decode cL_step 647 = .ok (.iload 7, 2) := by decide +kernel
theorem dL_step_649 : decode cL_step 649 = .ok (.invokevirtual 30, 3) := by decide +kernel
theorem dL_step_652 : decode cL_step 652 = .ok (.iconst 2, 1) := by decide +kernel
theorem dL_step_653 : decode cL_step 653 = .ok (.if_icmp .ne 14, 3) := by decide +kernel
theorem dL_step_656 : decode cL_step 656 = .ok (.aload 4, 2) := by decide +kernel
theorem dL_step_658 : decode cL_step 658 = .ok (.iload 8, 2) := by decide +kernel
theorem dL_step_660 : decode cL_step 660 = .ok (.bipush 15, 2) := by decide +kernel
theorem dL_step_662 : decode cL_step 662 = .ok (.iadd, 1) := by decide +kernel
theorem dL_step_663 : decode cL_step 663 = .ok (.laload, 1) := by decide +kernel
theorem dL_step_664 : decode cL_step 664 = .ok (.goto 4, 3) := by decide +kernel
theorem dL_step_667 : decode cL_step 667 = .ok (.lconst 0, 1) := by decide +kernel
theorem dL_step_668 : decode cL_step 668 = .ok (.lastore, 1) := by decide +kernel
theorem dL_step_669 : decode cL_step 669 = .ok (.aload_n 0, 1) := by decide +kernel
theorem dL_step_670 : decode cL_step 670 = .ok (.iload 7, 2) := by decide +kernel
theorem dL_step_672 : decode cL_step 672 = .ok (.invokevirtual 30, 3) := by decide +kernel
theorem dL_step_675 : decode cL_step 675 = .ok (.iconst 2, 1) := by decide +kernel
theorem dL_step_676 : decode cL_step 676 = .ok (.if_icmp .eq 25, 3) := by decide +kernel
theorem dL_step_679 : decode cL_step 679 = .ok (.aload_n 0, 1) := by decide +kernel
theorem dL_step_680 : decode cL_step 680 = .ok (.iload 7, 2) := by decide +kernel
theorem dL_step_682 : decode cL_step 682 = .ok (.iload_n 3, 1) := by decide +kernel
theorem dL_step_683 : decode cL_step 683 = .ok (.sipush 30001, 3) := by decide +kernel
theorem dL_step_686 : decode cL_step 686 = .ok (.irem, 1) := by decide +kernel
theorem dL_step_687 : decode cL_step 687 = .ok (.sipush 10000, 3) := by decide +kernel
theorem dL_step_690 : decode cL_step 690 = .ok (.isub, 1) := by decide +kernel
theorem dL_step_691 : decode cL_step 691 = .ok (.invokevirtual 158, 3) := by decide +kernel
theorem dL_step_694 : decode cL_step 694 = .ok (.i2l, 1) := by decide +kernel
theorem dL_step_695 : decode cL_step 695 = .ok (.lload 12, 2) := by decide +kernel
theorem dL_step_697 : decode cL_step 697 = .ok (.lcmp, 1) := by decide +kernel
theorem dL_step_698 : decode cL_step 698 = .ok (.ifCond .ne 7, 3) := by decide +kernel
theorem dL_step_701 : decode cL_step 701 = .ok (.iconst 1, 1) := by decide +kernel
theorem dL_step_702 : decode cL_step 702 = .ok (.goto 4, 3) := by decide +kernel
theorem dL_step_705 : decode cL_step 705 = .ok (.iconst 0, 1) := by decide +kernel
theorem dL_step_706 : decode cL_step 706 = .ok (.ireturn, 1) := by decide +kernel
theorem dL_step_707 : decode cL_step 707 = .ok (.aload 4, 2) := by decide +kernel
theorem dL_step_709 : decode cL_step 709 = .ok (.iload 8, 2) := by decide +kernel
theorem dL_step_711 : decode cL_step 711 = .ok (.bipush 7, 2) := by decide +kernel
theorem dL_step_713 : decode cL_step 713 = .ok (.iadd, 1) := by decide +kernel
theorem dL_step_714 : decode cL_step 714 = .ok (.laload, 1) := by decide +kernel
theorem dL_step_715 : decode cL_step 715 = .ok (.lstore 14, 2) := by decide +kernel
theorem dL_step_717 : decode cL_step 717 = .ok (.aload_n 0, 1) := by decide +kernel
theorem dL_step_718 : decode cL_step 718 = .ok (.iload 7, 2) := by decide +kernel
theorem dL_step_720 : decode cL_step 720 = .ok (.invokevirtual 30, 3) := by decide +kernel
theorem dL_step_723 : decode cL_step 723 = .ok (.ifCond .eq 5, 3) := by decide +kernel
theorem dL_step_726 : decode cL_step 726 = .ok (.iconst 1, 1) := by decide +kernel
theorem dL_step_727 : decode cL_step 727 = .ok (.ireturn, 1) := by decide +kernel
theorem dL_step_728 : decode cL_step 728 = .ok (.aload 4, 2) := by decide +kernel
theorem dL_step_730 : decode cL_step 730 = .ok (.iload 8, 2) := by decide +kernel
theorem dL_step_732 : decode cL_step 732 = .ok (.bipush 7, 2) := by decide +kernel
theorem dL_step_734 : decode cL_step 734 = .ok (.iadd, 1) := by decide +kernel
theorem dL_step_735 : decode cL_step 735 = .ok (.iload_n 3, 1) := by decide +kernel
theorem dL_step_736 : decode cL_step 736 = .ok (.sipush 20001, 3) := by decide +kernel
theorem dL_step_739 : decode cL_step 739 = .ok (.irem, 1) := by decide +kernel
theorem dL_step_740 : decode cL_step 740 = .ok (.sipush 5000, 3) := by decide +kernel
theorem dL_step_743 : decode cL_step 743 = .ok (.isub, 1) := by decide +kernel
theorem dL_step_744 : decode cL_step 744 = .ok (.i2l, 1) := by decide +kernel
theorem dL_step_745 : decode cL_step 745 = .ok (.lastore, 1) := by decide +kernel
theorem dL_step_746 : decode cL_step 746 = .ok (.aload_n 0, 1) := by decide +kernel
theorem dL_step_747 : decode cL_step 747 = .ok (.iload 7, 2) := by decide +kernel
theorem dL_step_749 : decode cL_step 749 = .ok (.aload 4, 2) := by decide +kernel
theorem dL_step_751 : decode cL_step 751 = .ok (.iload 8, 2) := by decide +kernel
theorem dL_step_753 : decode cL_step 753 = .ok (.bipush 7, 2) := by decide +kernel
theorem dL_step_755 : decode cL_step 755 = .ok (.iadd, 1) := by decide +kernel
theorem dL_step_756 : decode cL_step 756 = .ok (.laload, 1) := by decide +kernel
theorem dL_step_757 : decode cL_step 757 = .ok (.l2i, 1) := by decide +kernel
theorem dL_step_758 : decode cL_step 758 = .ok (.invokevirtual 161, 3) := by decide +kernel
theorem dL_step_761 : decode cL_step 761 = .ok (.i2l, 1) := by decide +kernel
theorem dL_step_762 : decode cL_step 762 = .ok (.lload 14, 2) := by decide +kernel
theorem dL_step_764 : decode cL_step 764 = .ok (.lcmp, 1) := by decide +kernel
theorem dL_step_765 : decode cL_step 765 = .ok (.ifCond .ne 7, 3) := by decide +kernel
theorem dL_step_768 : decode cL_step 768 = .ok (.iconst 1, 1) := by decide +kernel
theorem dL_step_769 : decode cL_step 769 = .ok (.goto 4, 3) := by decide +kernel
theorem dL_step_772 : decode cL_step 772 = .ok (.iconst 0, 1) := by decide +kernel
theorem dL_step_773 : decode cL_step 773 = .ok (.ireturn, 1) := by decide +kernel
theorem dL_step_774 : decode cL_step 774 = .ok (.iload_n 3, 1) := by decide +kernel
theorem dL_step_775 : decode cL_step 775 = .ok (.iconst 2, 1) := by decide +kernel
theorem dL_step_776 : decode cL_step 776 = .ok (.irem, 1) := by decide +kernel
theorem dL_step_777 : decode cL_step 777 = .ok (.ifCond .ne 7, 3) := by decide +kernel
theorem dL_step_780 : decode cL_step 780 = .ok (.iconst 1, 1) := by decide +kernel
theorem dL_step_781 : decode cL_step 781 = .ok (.goto 4, 3) := by decide +kernel
theorem dL_step_784 : decode cL_step 784 = .ok (.iconst 0, 1) := by decide +kernel
theorem dL_step_785 : decode cL_step 785 = .ok (.istore 16, 2) := by decide +kernel
theorem dL_step_787 : decode cL_step 787 = .ok (.iload 7, 2) := by decide +kernel
theorem dL_step_789 : decode cL_step 789 = .ok (.ifCond .le 23, 3) := by decide +kernel
theorem dL_step_792 : decode cL_step 792 = .ok (.iload_n 3, 1) := by decide +kernel
theorem dL_step_793 : decode cL_step 793 = .ok (.iconst 3, 1) := by decide +kernel
theorem dL_step_794 : decode cL_step 794 = .ok (.irem, 1) := by decide +kernel
theorem dL_step_795 : decode cL_step 795 = .ok (.ifCond .gt 13, 3) := by decide +kernel
theorem dL_step_798 : decode cL_step 798 = .ok (.aload_n 0, 1) := by decide +kernel
theorem dL_step_799 : decode cL_step 799 = .ok (.iload 7, 2) := by decide +kernel
theorem dL_step_801 : decode cL_step 801 = .ok (.invokevirtual 30, 3) := by decide +kernel
theorem dL_step_804 : decode cL_step 804 = .ok (.iconst 2, 1) := by decide +kernel
theorem dL_step_805 : decode cL_step 805 = .ok (.if_icmp .ne 7, 3) := by decide +kernel
theorem dL_step_808 : decode cL_step 808 = .ok (.iconst 1, 1) := by decide +kernel
theorem dL_step_809 : decode cL_step 809 = .ok (.goto 4, 3) := by decide +kernel
theorem dL_step_812 : decode cL_step 812 = .ok (.iconst 0, 1) := by decide +kernel
theorem dL_step_813 : decode cL_step 813 = .ok (.istore 17, 2) := by decide +kernel
theorem dL_step_815 : decode cL_step 815 = .ok (.aload 4, 2) := by decide +kernel
theorem dL_step_817 : decode cL_step 817 = .ok (.iload 8, 2) := by decide +kernel
theorem dL_step_819 : decode cL_step 819 = .ok (.bipush 8, 2) := by decide +kernel
theorem dL_step_821 : decode cL_step 821 = .ok (.iadd, 1) := by decide +kernel
theorem dL_step_822 : decode cL_step 822 = .ok (.iload 16, 2) := by decide +kernel
theorem dL_step_824 : decode cL_step 824 = .ok (.ifCond .eq 7, 3) := by decide +kernel
theorem dL_step_827 : decode cL_step 827 = .ok (.lconst 1, 1) := by decide +kernel
theorem dL_step_828 : decode cL_step 828 = .ok (.goto 4, 3) := by decide +kernel
theorem dL_step_831 : decode cL_step 831 = .ok (.lconst 0, 1) := by decide +kernel
theorem dL_step_832 : decode cL_step 832 = .ok (.lastore, 1) := by decide +kernel
theorem dL_step_833 : decode cL_step 833 = .ok (.aload 4, 2) := by decide +kernel
theorem dL_step_835 : decode cL_step 835 = .ok (.iload 8, 2) := by decide +kernel
theorem dL_step_837 : decode cL_step 837 = .ok (.bipush 9, 2) := by decide +kernel
theorem dL_step_839 : decode cL_step 839 = .ok (.iadd, 1) := by decide +kernel
theorem dL_step_840 : decode cL_step 840 = .ok (.iload 17, 2) := by decide +kernel
theorem dL_step_842 : decode cL_step 842 = .ok (.ifCond .eq 7, 3) := by decide +kernel
theorem dL_step_845 : decode cL_step 845 = .ok (.lconst 1, 1) := by decide +kernel
theorem dL_step_846 : decode cL_step 846 = .ok (.goto 4, 3) := by decide +kernel
theorem dL_step_849 : decode cL_step 849 = .ok (.lconst 0, 1) := by decide +kernel
theorem dL_step_850 : decode cL_step 850 = .ok (.lastore, 1) := by decide +kernel
theorem dL_step_851 : decode cL_step 851 = .ok (.aload_n 0, 1) := by decide +kernel
theorem dL_step_852 : decode cL_step 852 = .ok (.iload 7, 2) := by decide +kernel
theorem dL_step_854 : decode cL_step 854 = .ok (.iload 16, 2) := by decide +kernel
theorem dL_step_856 : decode cL_step 856 = .ok (.iload 17, 2) := by decide +kernel
theorem dL_step_858 : decode cL_step 858 = .ok (.invokevirtual 164, 3) := by decide +kernel
theorem dL_step_861 : decode cL_step 861 = .ok (.iconst 1, 1) := by decide +kernel
theorem dL_step_862 : decode cL_step 862 = .ok (.ireturn, 1) := by decide +kernel
theorem dL_step_863 : decode cL_step 863 = .ok (.aload_n 0, 1) := by decide +kernel
theorem dL_step_864 : decode cL_step 864 = .ok (.iload 7, 2) := by decide +kernel
theorem dL_step_866 : decode cL_step 866 = .ok (.invokevirtual 30, 3) := by decide +kernel
theorem dL_step_869 : decode cL_step 869 = .ok (.iconst 1, 1) := by decide +kernel
theorem dL_step_870 : decode cL_step 870 = .ok (.if_icmp .eq 15, 3) := by decide +kernel
theorem dL_step_873 : decode cL_step 873 = .ok (.aload_n 0, 1) := by decide +kernel
theorem dL_step_874 : decode cL_step 874 = .ok (.aload 4, 2) := by decide +kernel
theorem dL_step_876 : decode cL_step 876 = .ok (.aload 6, 2) := by decide +kernel
theorem dL_step_878 : decode cL_step 878 = .ok (.iload 7, 2) := by decide +kernel
theorem dL_step_880 : decode cL_step 880 = .ok (.iconst 1, 1) := by decide +kernel
theorem dL_step_881 : decode cL_step 881 = .ok (.invokestatic 168, 3) := by decide +kernel
theorem dL_step_884 : decode cL_step 884 = .ok (.ireturn, 1) := by decide +kernel
theorem dL_step_885 : decode cL_step 885 = .ok (.aload 4, 2) := by decide +kernel
theorem dL_step_887 : decode cL_step 887 = .ok (.iload 8, 2) := by decide +kernel
theorem dL_step_889 : decode cL_step 889 = .ok (.bipush 11, 2) := by decide +kernel
theorem dL_step_891 : decode cL_step 891 = .ok (.iadd, 1) := by decide +kernel
theorem dL_step_892 : decode cL_step 892 = .ok (.iconst 1, 1) := by decide +kernel
theorem dL_step_893 : decode cL_step 893 = .ok (.iload_n 3, 1) := by decide +kernel
theorem dL_step_894 : decode cL_step 894 = .ok (.sipush 5000, 3) := by decide +kernel
theorem dL_step_897 : decode cL_step 897 = .ok (.irem, 1) := by decide +kernel
theorem dL_step_898 : decode cL_step 898 = .ok (.iadd, 1) := by decide +kernel
theorem dL_step_899 : decode cL_step 899 = .ok (.i2l, 1) := by decide +kernel
theorem dL_step_900 : decode cL_step 900 = .ok (.lastore, 1) := by decide +kernel
theorem dL_step_901 : decode cL_step 901 = .ok (.aload 4, 2) := by decide +kernel
theorem dL_step_903 : decode cL_step 903 = .ok (.iload 8, 2) := by decide +kernel
theorem dL_step_905 : decode cL_step 905 = .ok (.bipush 12, 2) := by decide +kernel
theorem dL_step_907 : decode cL_step 907 = .ok (.iadd, 1) := by decide +kernel
theorem dL_step_908 : decode cL_step 908 = .ok (.iload_n 2, 1) := by decide +kernel
theorem dL_step_909 : decode cL_step 909 = .ok (.iconst 3, 1) := by decide +kernel
theorem dL_step_910 : decode cL_step 910 = .ok (.irem, 1) := by decide +kernel
theorem dL_step_911 : decode cL_step 911 = .ok (.ifCond .ne 12, 3) := by decide +kernel
theorem dL_step_914 : decode cL_step 914 = .ok (.iload_n 2, 1) := by decide +kernel
theorem dL_step_915 : decode cL_step 915 = .ok (.sipush 500, 3) := by decide +kernel
theorem dL_step_918 : decode cL_step 918 = .ok (.irem, 1) := by decide +kernel
theorem dL_step_919 : decode cL_step 919 = .ok (.i2l, 1) := by decide +kernel
theorem dL_step_920 : decode cL_step 920 = .ok (.goto 8, 3) := by decide +kernel
theorem dL_step_923 : decode cL_step 923 = .ok (.iload_n 2, 1) := by decide +kernel
theorem dL_step_924 : decode cL_step 924 = .ok (.bipush 20, 2) := by decide +kernel
theorem dL_step_926 : decode cL_step 926 = .ok (.irem, 1) := by decide +kernel
theorem dL_step_927 : decode cL_step 927 = .ok (.i2l, 1) := by decide +kernel
theorem dL_step_928 : decode cL_step 928 = .ok (.lastore, 1) := by decide +kernel
theorem dL_step_929 : decode cL_step 929 = .ok (.aload 4, 2) := by decide +kernel
theorem dL_step_931 : decode cL_step 931 = .ok (.iload 8, 2) := by decide +kernel
theorem dL_step_933 : decode cL_step 933 = .ok (.bipush 13, 2) := by decide +kernel
theorem dL_step_935 : decode cL_step 935 = .ok (.iadd, 1) := by decide +kernel
theorem dL_step_936 : decode cL_step 936 = .ok (.aload_n 0, 1) := by decide +kernel
theorem dL_step_937 : decode cL_step 937 = .ok (.iload 7, 2) := by decide +kernel
theorem dL_step_939 : decode cL_step 939 = .ok (.invokevirtual 52, 3) := by decide +kernel
theorem dL_step_942 : decode cL_step 942 = .ok (.lastore, 1) := by decide +kernel
theorem dL_step_943 : decode cL_step 943 = .ok (.aload 4, 2) := by decide +kernel
theorem dL_step_945 : decode cL_step 945 = .ok (.iload 8, 2) := by decide +kernel
theorem dL_step_947 : decode cL_step 947 = .ok (.bipush 15, 2) := by decide +kernel
theorem dL_step_949 : decode cL_step 949 = .ok (.iadd, 1) := by decide +kernel
theorem dL_step_950 : decode cL_step 950 = .ok (.lconst 0, 1) := by decide +kernel
theorem dL_step_951 : decode cL_step 951 = .ok (.lastore, 1) := by decide +kernel
theorem dL_step_952 : decode cL_step 952 = .ok (.aload 6, 2) := by decide +kernel
theorem dL_step_954 : decode cL_step 954 = .ok (.iconst 3, 1) := by decide +kernel
theorem dL_step_955 : decode cL_step 955 = .ok (.iload 7, 2) := by decide +kernel
theorem dL_step_957 : decode cL_step 957 = .ok (.iadd, 1) := by decide +kernel
theorem dL_step_958 : decode cL_step 958 = .ok (.iconst 0, 1) := by decide +kernel
theorem dL_step_959 : decode cL_step 959 = .ok (.iastore, 1) := by decide +kernel
theorem dL_step_960 : decode cL_step 960 = .ok (.aload_n 0, 1) := by decide +kernel
theorem dL_step_961 : decode cL_step 961 = .ok (.iload 7, 2) := by decide +kernel
theorem dL_step_963 : decode cL_step 963 = .ok (.aload 4, 2) := by decide +kernel
theorem dL_step_965 : decode cL_step 965 = .ok (.iload 8, 2) := by decide +kernel
theorem dL_step_967 : decode cL_step 967 = .ok (.bipush 11, 2) := by decide +kernel
theorem dL_step_969 : decode cL_step 969 = .ok (.iadd, 1) := by decide +kernel
theorem dL_step_970 : decode cL_step 970 = .ok (.laload, 1) := by decide +kernel
theorem dL_step_971 : decode cL_step 971 = .ok (.l2i, 1) := by decide +kernel
theorem dL_step_972 : decode cL_step 972 = .ok (.aload 4, 2) := by decide +kernel
theorem dL_step_974 : decode cL_step 974 = .ok (.iload 8, 2) := by decide +kernel
theorem dL_step_976 : decode cL_step 976 = .ok (.bipush 12, 2) := by decide +kernel
theorem dL_step_978 : decode cL_step 978 = .ok (.iadd, 1) := by decide +kernel
theorem dL_step_979 : decode cL_step 979 = .ok (.laload, 1) := by decide +kernel
theorem dL_step_980 : decode cL_step 980 = .ok (.l2i, 1) := by decide +kernel
theorem dL_step_981 : decode cL_step 981 = .ok (.invokevirtual 172, 3) := by decide +kernel
theorem dL_step_984 : decode cL_step 984 = .ok (.aload_n 0, 1) := by decide +kernel
theorem dL_step_985 : decode cL_step 985 = .ok (.iload 7, 2) := by decide +kernel
theorem dL_step_987 : decode cL_step 987 = .ok (.invokevirtual 30, 3) := by decide +kernel
theorem dL_step_990 : decode cL_step 990 = .ok (.iconst 3, 1) := by decide +kernel
theorem dL_step_991 : decode cL_step 991 = .ok (.if_icmp .ne 17, 3) := by decide +kernel
theorem dL_step_994 : decode cL_step 994 = .ok (.aload_n 0, 1) := by decide +kernel
theorem dL_step_995 : decode cL_step 995 = .ok (.iload 7, 2) := by decide +kernel
theorem dL_step_997 : decode cL_step 997 = .ok (.invokevirtual 39, 3) := by decide +kernel
theorem dL_step_1000 : decode cL_step 1000 = .ok (.iconst 1, 1) := by decide +kernel
theorem dL_step_1001 : decode cL_step 1001 = .ok (.if_icmp .ne 7, 3) := by decide +kernel
theorem dL_step_1004 : decode cL_step 1004 = .ok (.iconst 1, 1) := by decide +kernel
theorem dL_step_1005 : decode cL_step 1005 = .ok (.goto 4, 3) := by decide +kernel
theorem dL_step_1008 : decode cL_step 1008 = .ok (.iconst 0, 1) := by decide +kernel
theorem dL_step_1009 : decode cL_step 1009 = .ok (.ireturn, 1) := by decide +kernel
theorem dL_step_1010 : decode cL_step 1010 = .ok (.aload_n 0, 1) := by decide +kernel
theorem dL_step_1011 : decode cL_step 1011 = .ok (.aload 4, 2) := by decide +kernel
theorem dL_step_1013 : decode cL_step 1013 = .ok (.aload 6, 2) := by decide +kernel
theorem dL_step_1015 : decode cL_step 1015 = .ok (.iload 7, 2) := by decide +kernel
theorem dL_step_1017 : decode cL_step 1017 = .ok (.iload_n 3, 1) := by decide +kernel
theorem dL_step_1018 : decode cL_step 1018 = .ok (.iconst 3, 1) := by decide +kernel
theorem dL_step_1019 : decode cL_step 1019 = .ok (.irem, 1) := by decide +kernel
theorem dL_step_1020 : decode cL_step 1020 = .ok (.invokestatic 168, 3) := by decide +kernel
theorem dL_step_1023 : decode cL_step 1023 = .ok (.ireturn, 1) := by decide +kernel
theorem dL_bench_0 : decode cL_bench 0 = .ok (.new 31, 3) := by decide +kernel
theorem dL_bench_3 : decode cL_bench 3 = .ok (.dup, 1) := by decide +kernel
theorem dL_bench_4 : decode cL_bench 4 = .ok (.invokespecial 175, 3) := by decide +kernel
theorem dL_bench_7 : decode cL_bench 7 = .ok (.astore_n 2, 1) := by decide +kernel
theorem dL_bench_8 : decode cL_bench 8 = .ok (.bipush 60, 2) := by decide +kernel
theorem dL_bench_10 : decode cL_bench 10 = .ok (.newarray .long, 2) := by decide +kernel
theorem dL_bench_12 : decode cL_bench 12 = .ok (.astore_n 3, 1) := by decide +kernel
theorem dL_bench_13 : decode cL_bench 13 = .ok (.bipush 33, 2) := by decide +kernel
theorem dL_bench_15 : decode cL_bench 15 = .ok (.newarray .long, 2) := by decide +kernel
theorem dL_bench_17 : decode cL_bench 17 = .ok (.astore 4, 2) := by decide +kernel
theorem dL_bench_19 : decode cL_bench 19 = .ok (.bipush 60, 2) := by decide +kernel
theorem dL_bench_21 : decode cL_bench 21 = .ok (.newarray .long, 2) := by decide +kernel
theorem dL_bench_23 : decode cL_bench 23 = .ok (.astore 5, 2) := by decide +kernel
theorem dL_bench_25 : decode cL_bench 25 = .ok (.bipush 6, 2) := by decide +kernel
theorem dL_bench_27 : decode cL_bench 27 = .ok (.newarray .int, 2) := by decide +kernel
theorem dL_bench_29 : decode cL_bench 29 = .ok (.astore 6, 2) := by decide +kernel
theorem dL_bench_31 : decode cL_bench 31 = .ok (.iconst 0, 1) := by decide +kernel
theorem dL_bench_32 : decode cL_bench 32 = .ok (.istore 7, 2) := by decide +kernel
theorem dL_bench_34 : decode cL_bench 34 = .ok (.iconst 0, 1) := by decide +kernel
theorem dL_bench_35 : decode cL_bench 35 = .ok (.istore 8, 2) := by decide +kernel
theorem dL_bench_37 : decode cL_bench 37 = .ok (.iload 8, 2) := by decide +kernel
theorem dL_bench_39 : decode cL_bench 39 = .ok (.iconst 3, 1) := by decide +kernel
theorem dL_bench_40 : decode cL_bench 40 = .ok (.if_icmp .ge 44, 3) := by decide +kernel
theorem dL_bench_43 : decode cL_bench 43 = .ok (.aload_n 3, 1) := by decide +kernel
theorem dL_bench_44 : decode cL_bench 44 = .ok (.bipush 20, 2) := by decide +kernel
theorem dL_bench_46 : decode cL_bench 46 = .ok (.iload 8, 2) := by decide +kernel
theorem dL_bench_48 : decode cL_bench 48 = .ok (.imul, 1) := by decide +kernel
theorem dL_bench_49 : decode cL_bench 49 = .ok (.ldc2_w 176, 3) := by decide +kernel
theorem dL_bench_52 : decode cL_bench 52 = .ok (.lastore, 1) := by decide +kernel
theorem dL_bench_53 : decode cL_bench 53 = .ok (.aload_n 3, 1) := by decide +kernel
theorem dL_bench_54 : decode cL_bench 54 = .ok (.bipush 20, 2) := by decide +kernel
theorem dL_bench_56 : decode cL_bench 56 = .ok (.iload 8, 2) := by decide +kernel
theorem dL_bench_58 : decode cL_bench 58 = .ok (.imul, 1) := by decide +kernel
theorem dL_bench_59 : decode cL_bench 59 = .ok (.iconst 2, 1) := by decide +kernel
theorem dL_bench_60 : decode cL_bench 60 = .ok (.iadd, 1) := by decide +kernel
theorem dL_bench_61 : decode cL_bench 61 = .ok (.ldc2_w 178, 3) := by decide +kernel
theorem dL_bench_64 : decode cL_bench 64 = .ok (.lastore, 1) := by decide +kernel
theorem dL_bench_65 : decode cL_bench 65 = .ok (.aload_n 3, 1) := by decide +kernel
theorem dL_bench_66 : decode cL_bench 66 = .ok (.bipush 20, 2) := by decide +kernel
theorem dL_bench_68 : decode cL_bench 68 = .ok (.iload 8, 2) := by decide +kernel
theorem dL_bench_70 : decode cL_bench 70 = .ok (.imul, 1) := by decide +kernel
theorem dL_bench_71 : decode cL_bench 71 = .ok (.bipush 6, 2) := by decide +kernel
theorem dL_bench_73 : decode cL_bench 73 = .ok (.iadd, 1) := by decide +kernel
theorem dL_bench_74 : decode cL_bench 74 = .ok (.ldc2_w 26, 3) := by decide +kernel
theorem dL_bench_77 : decode cL_bench 77 = .ok (.lastore, 1) := by decide +kernel
theorem dL_bench_78 : decode cL_bench 78 = .ok (.iinc 8 1, 3) := by decide +kernel
theorem dL_bench_81 : decode cL_bench 81 = .ok (.goto (-44), 3) := by decide +kernel
theorem dL_bench_84 : decode cL_bench 84 = .ok (.iconst 0, 1) := by decide +kernel
theorem dL_bench_85 : decode cL_bench 85 = .ok (.istore 8, 2) := by decide +kernel
theorem dL_bench_87 : decode cL_bench 87 = .ok (.iload 8, 2) := by decide +kernel
theorem dL_bench_89 : decode cL_bench 89 = .ok (.bipush 44, 2) := by decide +kernel
theorem dL_bench_91 : decode cL_bench 91 = .ok (.if_icmp .ge 151, 3) := by decide +kernel
theorem dL_bench_94 : decode cL_bench 94 = .ok (.aload_n 0, 1) := by decide +kernel
theorem dL_bench_95 : decode cL_bench 95 = .ok (.iload_n 1, 1) := by decide +kernel
theorem dL_bench_96 : decode cL_bench 96 = .ok (.iconst 3, 1) := by decide +kernel
theorem dL_bench_97 : decode cL_bench 97 = .ok (.iload 8, 2) := by decide +kernel
theorem dL_bench_99 : decode cL_bench 99 = .ok (.imul, 1) := by decide +kernel
theorem dL_bench_100 : decode cL_bench 100 = .ok (.iadd, 1) := by decide +kernel
theorem dL_bench_101 : decode cL_bench 101 = .ok (.iconst 1, 1) := by decide +kernel
theorem dL_bench_102 : decode cL_bench 102 = .ok (.iadd, 1) := by decide +kernel
theorem dL_bench_103 : decode cL_bench 103 = .ok (.ldc 180, 2) := by decide +kernel
theorem dL_bench_105 : decode cL_bench 105 = .ok (.invokestatic 181, 3) := by decide +kernel
theorem dL_bench_108 : decode cL_bench 108 = .ok (.istore 9, 2) := by decide +kernel
theorem dL_bench_110 : decode cL_bench 110 = .ok (.aload_n 0, 1) := by decide +kernel
theorem dL_bench_111 : decode cL_bench 111 = .ok (.iload_n 1, 1) := by decide +kernel
theorem dL_bench_112 : decode cL_bench 112 = .ok (.iconst 3, 1) := by decide +kernel
theorem dL_bench_113 : decode cL_bench 113 = .ok (.iload 8, 2) := by decide +kernel
theorem dL_bench_115 : decode cL_bench 115 = .ok (.imul, 1) := by decide +kernel
theorem dL_bench_116 : decode cL_bench 116 = .ok (.iadd, 1) := by decide +kernel
theorem dL_bench_117 : decode cL_bench 117 = .ok (.iconst 2, 1) := by decide +kernel
theorem dL_bench_118 : decode cL_bench 118 = .ok (.iadd, 1) := by decide +kernel
theorem dL_bench_119 : decode cL_bench 119 = .ok (.ldc 180, 2) := by decide +kernel
theorem dL_bench_121 : decode cL_bench 121 = .ok (.invokestatic 181, 3) := by decide +kernel
theorem dL_bench_124 : decode cL_bench 124 = .ok (.istore 10, 2) := by decide +kernel
theorem dL_bench_126 : decode cL_bench 126 = .ok (.aload_n 2, 1) := by decide +kernel
theorem dL_bench_127 : decode cL_bench 127 = .ok (.iload 8, 2) := by decide +kernel
theorem dL_bench_129 : decode cL_bench 129 = .ok (.bipush 6, 2) := by decide +kernel
theorem dL_bench_131 : decode cL_bench 131 = .ok (.if_icmp .ge 13, 3) := by decide +kernel
theorem dL_bench_134 : decode cL_bench 134 = .ok (.bipush 6, 2) := by decide +kernel
theorem dL_bench_136 : decode cL_bench 136 = .ok (.iload 8, 2) := by decide +kernel
theorem dL_bench_138 : decode cL_bench 138 = .ok (.iconst 2, 1) := by decide +kernel
theorem dL_bench_139 : decode cL_bench 139 = .ok (.irem, 1) := by decide +kernel
theorem dL_bench_140 : decode cL_bench 140 = .ok (.iadd, 1) := by decide +kernel
theorem dL_bench_141 : decode cL_bench 141 = .ok (.goto 15, 3) := by decide +kernel
theorem dL_bench_144 : decode cL_bench 144 = .ok (.aload_n 0, 1) := by decide +kernel
theorem dL_bench_145 : decode cL_bench 145 = .ok (.iload_n 1, 1) := by decide +kernel
theorem dL_bench_146 : decode cL_bench 146 = .ok (.iconst 3, 1) := by decide +kernel
theorem dL_bench_147 : decode cL_bench 147 = .ok (.iload 8, 2) := by decide +kernel
theorem dL_bench_149 : decode cL_bench 149 = .ok (.imul, 1) := by decide +kernel
theorem dL_bench_150 : decode cL_bench 150 = .ok (.iadd, 1) := by decide +kernel
theorem dL_bench_151 : decode cL_bench 151 = .ok (.bipush 14, 2) := by decide +kernel
theorem dL_bench_153 : decode cL_bench 153 = .ok (.invokestatic 181, 3) := by decide +kernel
theorem dL_bench_156 : decode cL_bench 156 = .ok (.iload 9, 2) := by decide +kernel
theorem dL_bench_158 : decode cL_bench 158 = .ok (.iload 10, 2) := by decide +kernel
theorem dL_bench_160 : decode cL_bench 160 = .ok (.aload_n 3, 1) := by decide +kernel
theorem dL_bench_161 : decode cL_bench 161 = .ok (.aload 5, 2) := by decide +kernel
theorem dL_bench_163 : decode cL_bench 163 = .ok (.aload 6, 2) := by decide +kernel
theorem dL_bench_165 : decode cL_bench 165 = .ok (.invokestatic 185, 3) := by decide +kernel
theorem dL_bench_168 : decode cL_bench 168 = .ok (.ifCond .ne 5, 3) := by decide +kernel
theorem dL_bench_171 : decode cL_bench 171 = .ok (.iconst 0, 1) := by decide +kernel
theorem dL_bench_172 : decode cL_bench 172 = .ok (.ireturn, 1) := by decide +kernel
theorem dL_bench_173 : decode cL_bench 173 = .ok (.iload 10, 2) := by decide +kernel
theorem dL_bench_175 : decode cL_bench 175 = .ok (.bipush 7, 2) := by decide +kernel
theorem dL_bench_177 : decode cL_bench 177 = .ok (.irem, 1) := by decide +kernel
theorem dL_bench_178 : decode cL_bench 178 = .ok (.ifCond .ne 13, 3) := by decide +kernel
theorem dL_bench_181 : decode cL_bench 181 = .ok (.iconst 1, 1) := by decide +kernel
theorem dL_bench_182 : decode cL_bench 182 = .ok (.iload 9, 2) := by decide +kernel
theorem dL_bench_184 : decode cL_bench 184 = .ok (.bipush 120, 2) := by decide +kernel
theorem dL_bench_186 : decode cL_bench 186 = .ok (.irem, 1) := by decide +kernel
theorem dL_bench_187 : decode cL_bench 187 = .ok (.iadd, 1) := by decide +kernel
theorem dL_bench_188 : decode cL_bench 188 = .ok (.goto 9, 3) := by decide +kernel
theorem dL_bench_191 : decode cL_bench 191 = .ok (.iconst 1, 1) := by decide +kernel
theorem dL_bench_192 : decode cL_bench 192 = .ok (.iload 9, 2) := by decide +kernel
theorem dL_bench_194 : decode cL_bench 194 = .ok (.iconst 5, 1) := by decide +kernel
theorem dL_bench_195 : decode cL_bench 195 = .ok (.irem, 1) := by decide +kernel
theorem dL_bench_196 : decode cL_bench 196 = .ok (.iadd, 1) := by decide +kernel
theorem dL_bench_197 : decode cL_bench 197 = .ok (.istore 11, 2) := by decide +kernel
theorem dL_bench_199 : decode cL_bench 199 = .ok (.iconst 0, 1) := by decide +kernel
theorem dL_bench_200 : decode cL_bench 200 = .ok (.istore 12, 2) := by decide +kernel
theorem dL_bench_202 : decode cL_bench 202 = .ok (.iload 12, 2) := by decide +kernel
theorem dL_bench_204 : decode cL_bench 204 = .ok (.iload 11, 2) := by decide +kernel
theorem dL_bench_206 : decode cL_bench 206 = .ok (.if_icmp .ge 30, 3) := by decide +kernel
theorem dL_bench_209 : decode cL_bench 209 = .ok (.aload_n 2, 1) := by decide +kernel
theorem dL_bench_210 : decode cL_bench 210 = .ok (.aload_n 3, 1) := by decide +kernel
theorem dL_bench_211 : decode cL_bench 211 = .ok (.aload 4, 2) := by decide +kernel
theorem dL_bench_213 : decode cL_bench 213 = .ok (.aload 5, 2) := by decide +kernel
theorem dL_bench_215 : decode cL_bench 215 = .ok (.aload 6, 2) := by decide +kernel
theorem dL_bench_217 : decode cL_bench 217 = .ok (.iload 7, 2) := by decide +kernel
theorem dL_bench_219 : decode cL_bench 219 = .ok (.invokestatic 189, 3) := by decide +kernel
theorem dL_bench_222 : decode cL_bench 222 = .ok (.ifCond .ne 5, 3) := by decide +kernel
theorem dL_bench_225 : decode cL_bench 225 = .ok (.iconst 0, 1) := by decide +kernel
theorem dL_bench_226 : decode cL_bench 226 = .ok (.ireturn, 1) := by decide +kernel
theorem dL_bench_227 : decode cL_bench 227 = .ok (.iinc 7 1, 3) := by decide +kernel
theorem dL_bench_230 : decode cL_bench 230 = .ok (.iinc 12 1, 3) := by decide +kernel
theorem dL_bench_233 : decode cL_bench 233 = .ok (.goto (-31), 3) := by decide +kernel
theorem dL_bench_236 : decode cL_bench 236 = .ok (.iinc 8 1, 3) := by decide +kernel
theorem dL_bench_239 : decode cL_bench 239 = .ok (.goto (-152), 3) := by decide +kernel
theorem dL_bench_242 : decode cL_bench 242 = .ok (.iconst 1, 1) := by decide +kernel
theorem dL_bench_243 : decode cL_bench 243 = .ok (.ireturn, 1) := by decide +kernel
theorem dL_law_0 : decode cL_law 0 = .ok (.aload_n 0, 1) := by decide +kernel
theorem dL_law_1 : decode cL_law 1 = .ok (.iconst 0, 1) := by decide +kernel
theorem dL_law_2 : decode cL_law 2 = .ok (.invokestatic 193, 3) := by decide +kernel
theorem dL_law_5 : decode cL_law 5 = .ok (.ifCond .eq 27, 3) := by decide +kernel
theorem dL_law_8 : decode cL_law 8 = .ok (.aload_n 0, 1) := by decide +kernel
theorem dL_law_9 : decode cL_law 9 = .ok (.sipush 135, 3) := by decide +kernel
theorem dL_law_12 : decode cL_law 12 = .ok (.invokestatic 193, 3) := by decide +kernel
theorem dL_law_15 : decode cL_law 15 = .ok (.ifCond .eq 17, 3) := by decide +kernel
theorem dL_law_18 : decode cL_law 18 = .ok (.aload_n 0, 1) := by decide +kernel
theorem dL_law_19 : decode cL_law 19 = .ok (.sipush 270, 3) := by decide +kernel
theorem dL_law_22 : decode cL_law 22 = .ok (.invokestatic 193, 3) := by decide +kernel
theorem dL_law_25 : decode cL_law 25 = .ok (.ifCond .eq 7, 3) := by decide +kernel
theorem dL_law_28 : decode cL_law 28 = .ok (.iconst 1, 1) := by decide +kernel
theorem dL_law_29 : decode cL_law 29 = .ok (.goto 4, 3) := by decide +kernel
theorem dL_law_32 : decode cL_law 32 = .ok (.iconst 0, 1) := by decide +kernel
theorem dL_law_33 : decode cL_law 33 = .ok (.ireturn, 1) := by decide +kernel
