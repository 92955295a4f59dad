theorem dL_draw_0 : decode cL_draw 0 = .ok (.iload_n 1, 1) := by decide +kernel
theorem dL_draw_1 : decode cL_draw 1 = .ok (.aload_n 0, 1) := by decide +kernel
theorem dL_draw_2 : decode cL_draw 2 = .ok (.arraylength, 1) := by decide +kernel
theorem dL_draw_3 : decode cL_draw 3 = .ok (.if_icmp .ge 9, 3) := by decide +kernel
theorem dL_draw_6 : decode cL_draw 6 = .ok (.aload_n 0, 1) := by decide +kernel
theorem dL_draw_7 : decode cL_draw 7 = .ok (.iload_n 1, 1) := by decide +kernel
theorem dL_draw_8 : decode cL_draw 8 = .ok (.iaload, 1) := by decide +kernel
theorem dL_draw_9 : decode cL_draw 9 = .ok (.goto 13, 3) := by decide +kernel
theorem dL_draw_12 : decode cL_draw 12 = .ok (.ldc 7, 2) := by decide +kernel
theorem dL_draw_14 : decode cL_draw 14 = .ok (.iload_n 1, 1) := by decide +kernel
theorem dL_draw_15 : decode cL_draw 15 = .ok (.bipush 25, 2) := by decide +kernel
theorem dL_draw_17 : decode cL_draw 17 = .ok (.iadd, 1) := by decide +kernel
theorem dL_draw_18 : decode cL_draw 18 = .ok (.imul, 1) := by decide +kernel
theorem dL_draw_19 : decode cL_draw 19 = .ok (.ldc 8, 2) := by decide +kernel
theorem dL_draw_21 : decode cL_draw 21 = .ok (.iadd, 1) := by decide +kernel
theorem dL_draw_22 : decode cL_draw 22 = .ok (.istore_n 3, 1) := by decide +kernel
theorem dL_draw_23 : decode cL_draw 23 = .ok (.iload_n 3, 1) := by decide +kernel
theorem dL_draw_24 : decode cL_draw 24 = .ok (.ldc 9, 2) := by decide +kernel
theorem dL_draw_26 : decode cL_draw 26 = .ok (.iand, 1) := by decide +kernel
theorem dL_draw_27 : decode cL_draw 27 = .ok (.iload_n 2, 1) := by decide +kernel
theorem dL_draw_28 : decode cL_draw 28 = .ok (.irem, 1) := by decide +kernel
theorem dL_draw_29 : decode cL_draw 29 = .ok (.ireturn, 1) := by decide +kernel
theorem dL_floor_0 : decode cL_floor 0 = .ok (.lload_n 0, 1) := by decide +kernel
theorem dL_floor_1 : decode cL_floor 1 = .ok (.lload_n 2, 1) := by decide +kernel
theorem dL_floor_2 : decode cL_floor 2 = .ok (.lrem, 1) := by decide +kernel
theorem dL_floor_3 : decode cL_floor 3 = .ok (.lstore 4, 2) := by decide +kernel
theorem dL_floor_5 : decode cL_floor 5 = .ok (.lload_n 0, 1) := by decide +kernel
theorem dL_floor_6 : decode cL_floor 6 = .ok (.lload 4, 2) := by decide +kernel
theorem dL_floor_8 : decode cL_floor 8 = .ok (.lconst 0, 1) := by decide +kernel
theorem dL_floor_9 : decode cL_floor 9 = .ok (.lcmp, 1) := by decide +kernel
theorem dL_floor_10 : decode cL_floor 10 = .ok (.ifCond .ge 10, 3) := by decide +kernel
theorem dL_floor_13 : decode cL_floor 13 = .ok (.lload 4, 2) := by decide +kernel
theorem dL_floor_15 : decode cL_floor 15 = .ok (.lload_n 2, 1) := by decide +kernel
theorem dL_floor_16 : decode cL_floor 16 = .ok (.ladd, 1) := by decide +kernel
theorem dL_floor_17 : decode cL_floor 17 = .ok (.goto 5, 3) := by decide +kernel
theorem dL_floor_20 : decode cL_floor 20 = .ok (.lload 4, 2) := by decide +kernel
theorem dL_floor_22 : decode cL_floor 22 = .ok (.lsub, 1) := by decide +kernel
theorem dL_floor_23 : decode cL_floor 23 = .ok (.lload_n 2, 1) := by decide +kernel
theorem dL_floor_24 : decode cL_floor 24 = .ok (.ldiv, 1) := by decide +kernel
theorem dL_floor_25 : decode cL_floor 25 = .ok (.lreturn, 1) := by decide +kernel
theorem dL_within_0 : decode cL_within 0 = .ok (.lload_n 0, 1) := by decide +kernel
theorem dL_within_1 : decode cL_within 1 = .ok (.lload_n 2, 1) := by decide +kernel
theorem dL_within_2 : decode cL_within 2 = .ok (.lcmp, 1) := by decide +kernel
theorem dL_within_3 : decode cL_within 3 = .ok (.ifCond .ge 7, 3) := by decide +kernel
theorem dL_within_6 : decode cL_within 6 = .ok (.lload_n 2, 1) := by decide +kernel
theorem dL_within_7 : decode cL_within 7 = .ok (.goto 16, 3) := by decide +kernel
theorem dL_within_10 : decode cL_within 10 = .ok (.lload_n 0, 1) := by decide +kernel
theorem dL_within_11 : decode cL_within 11 = .ok (.lload 4, 2) := by decide +kernel
theorem dL_within_13 : decode cL_within 13 = .ok (.lcmp, 1) := by decide +kernel
theorem dL_within_14 : decode cL_within 14 = .ok (.ifCond .le 8, 3) := by decide +kernel
theorem dL_within_17 : decode cL_within 17 = .ok (.lload 4, 2) := by decide +kernel
theorem dL_within_19 : decode cL_within 19 = .ok (.goto 4, 3) := by decide +kernel
theorem dL_within_22 : decode cL_within 22 = .ok (.lload_n 0, 1) := by decide +kernel
theorem dL_within_23 : decode cL_within 23 = .ok (.lreturn, 1) := by decide +kernel
theorem dL_next_0 : decode cL_next 0 = .ok (.bipush 20, 2) := by decide +kernel
theorem dL_next_2 : decode cL_next 2 = .ok (.iload_n 2, 1) := by decide +kernel
theorem dL_next_3 : decode cL_next 3 = .ok (.imul, 1) := by decide +kernel
theorem dL_next_4 : decode cL_next 4 = .ok (.istore 5, 2) := by decide +kernel
theorem dL_next_6 : decode cL_next 6 = .ok (.aload_n 0, 1) := by decide +kernel
theorem dL_next_7 : decode cL_next 7 = .ok (.iload 5, 2) := by decide +kernel
theorem dL_next_9 : decode cL_next 9 = .ok (.laload, 1) := by decide +kernel
theorem dL_next_10 : decode cL_next 10 = .ok (.lload_n 3, 1) := by decide +kernel
theorem dL_next_11 : decode cL_next 11 = .ok (.lmul, 1) := by decide +kernel
theorem dL_next_12 : decode cL_next 12 = .ok (.aload_n 0, 1) := by decide +kernel
theorem dL_next_13 : decode cL_next 13 = .ok (.iload 5, 2) := by decide +kernel
theorem dL_next_15 : decode cL_next 15 = .ok (.iconst 1, 1) := by decide +kernel
theorem dL_next_16 : decode cL_next 16 = .ok (.iadd, 1) := by decide +kernel
theorem dL_next_17 : decode cL_next 17 = .ok (.laload, 1) := by decide +kernel
theorem dL_next_18 : decode cL_next 18 = .ok (.aload_n 0, 1) := by decide +kernel
theorem dL_next_19 : decode cL_next 19 = .ok (.iload 5, 2) := by decide +kernel
theorem dL_next_21 : decode cL_next 21 = .ok (.bipush 10, 2) := by decide +kernel
theorem dL_next_23 : decode cL_next 23 = .ok (.iadd, 1) := by decide +kernel
theorem dL_next_24 : decode cL_next 24 = .ok (.laload, 1) := by decide +kernel
theorem dL_next_25 : decode cL_next 25 = .ok (.lmul, 1) := by decide +kernel
theorem dL_next_26 : decode cL_next 26 = .ok (.ladd, 1) := by decide +kernel
theorem dL_next_27 : decode cL_next 27 = .ok (.aload_n 0, 1) := by decide +kernel
theorem dL_next_28 : decode cL_next 28 = .ok (.iload 5, 2) := by decide +kernel
theorem dL_next_30 : decode cL_next 30 = .ok (.iconst 2, 1) := by decide +kernel
theorem dL_next_31 : decode cL_next 31 = .ok (.iadd, 1) := by decide +kernel
theorem dL_next_32 : decode cL_next 32 = .ok (.laload, 1) := by decide +kernel
theorem dL_next_33 : decode cL_next 33 = .ok (.aload_n 1, 1) := by decide +kernel
theorem dL_next_34 : decode cL_next 34 = .ok (.bipush 11, 2) := by decide +kernel
theorem dL_next_36 : decode cL_next 36 = .ok (.iload_n 2, 1) := by decide +kernel
theorem dL_next_37 : decode cL_next 37 = .ok (.imul, 1) := by decide +kernel
theorem dL_next_38 : decode cL_next 38 = .ok (.aload_n 0, 1) := by decide +kernel
theorem dL_next_39 : decode cL_next 39 = .ok (.iload 5, 2) := by decide +kernel
theorem dL_next_41 : decode cL_next 41 = .ok (.iconst 3, 1) := by decide +kernel
theorem dL_next_42 : decode cL_next 42 = .ok (.iadd, 1) := by decide +kernel
theorem dL_next_43 : decode cL_next 43 = .ok (.laload, 1) := by decide +kernel
theorem dL_next_44 : decode cL_next 44 = .ok (.l2i, 1) := by decide +kernel
theorem dL_next_45 : decode cL_next 45 = .ok (.iadd, 1) := by decide +kernel
theorem dL_next_46 : decode cL_next 46 = .ok (.laload, 1) := by decide +kernel
theorem dL_next_47 : decode cL_next 47 = .ok (.lmul, 1) := by decide +kernel
theorem dL_next_48 : decode cL_next 48 = .ok (.ladd, 1) := by decide +kernel
theorem dL_next_49 : decode cL_next 49 = .ok (.lstore 6, 2) := by decide +kernel
theorem dL_next_51 : decode cL_next 51 = .ok (.lload 6, 2) := by decide +kernel
theorem dL_next_53 : decode cL_next 53 = .ok (.ldc2_w 10, 3) := by decide +kernel
theorem dL_next_56 : decode cL_next 56 = .ok (.invokestatic 12, 3) := by decide +kernel
theorem dL_next_59 : decode cL_next 59 = .ok (.aload_n 0, 1) := by decide +kernel
theorem dL_next_60 : decode cL_next 60 = .ok (.iload 5, 2) := by decide +kernel
theorem dL_next_62 : decode cL_next 62 = .ok (.iconst 4, 1) := by decide +kernel
theorem dL_next_63 : decode cL_next 63 = .ok (.iadd, 1) := by decide +kernel
theorem dL_next_64 : decode cL_next 64 = .ok (.laload, 1) := by decide +kernel
theorem dL_next_65 : decode cL_next 65 = .ok (.ladd, 1) := by decide +kernel
theorem dL_next_66 : decode cL_next 66 = .ok (.ldc2_w 18, 3) := by decide +kernel
theorem dL_next_69 : decode cL_next 69 = .ok (.ldc2_w 20, 3) := by decide +kernel
theorem dL_next_72 : decode cL_next 72 = .ok (.invokestatic 22, 3) := by decide +kernel
theorem dL_next_75 : decode cL_next 75 = .ok (.lreturn, 1) := by decide +kernel
theorem dL_isGain_0 : decode cL_isGain 0 = .ok (.ldc2_w 26, 3) := by decide +kernel
theorem dL_isGain_3 : decode cL_isGain 3 = .ok (.lstore 6, 2) := by decide +kernel
theorem dL_isGain_5 : decode cL_isGain 5 = .ok (.ldc2_w 28, 3) := by decide +kernel
theorem dL_isGain_8 : decode cL_isGain 8 = .ok (.lstore 8, 2) := by decide +kernel
theorem dL_isGain_10 : decode cL_isGain 10 = .ok (.iconst 0, 1) := by decide +kernel
theorem dL_isGain_11 : decode cL_isGain 11 = .ok (.istore 10, 2) := by decide +kernel
theorem dL_isGain_13 : decode cL_isGain 13 = .ok (.iload 10, 2) := by decide +kernel
theorem dL_isGain_15 : decode cL_isGain 15 = .ok (.iload 5, 2) := by decide +kernel
theorem dL_isGain_17 : decode cL_isGain 17 = .ok (.if_icmp .ge 61, 3) := by decide +kernel
theorem dL_isGain_20 : decode cL_isGain 20 = .ok (.aload_n 2, 1) := by decide +kernel
theorem dL_isGain_21 : decode cL_isGain 21 = .ok (.bipush 20, 2) := by decide +kernel
theorem dL_isGain_23 : decode cL_isGain 23 = .ok (.iload_n 3, 1) := by decide +kernel
theorem dL_isGain_24 : decode cL_isGain 24 = .ok (.imul, 1) := by decide +kernel
theorem dL_isGain_25 : decode cL_isGain 25 = .ok (.iconst 4, 1) := by decide +kernel
theorem dL_isGain_26 : decode cL_isGain 26 = .ok (.iload 10, 2) := by decide +kernel
theorem dL_isGain_28 : decode cL_isGain 28 = .ok (.imul, 1) := by decide +kernel
theorem dL_isGain_29 : decode cL_isGain 29 = .ok (.iadd, 1) := by decide +kernel
theorem dL_isGain_30 : decode cL_isGain 30 = .ok (.iconst 1, 1) := by decide +kernel
theorem dL_isGain_31 : decode cL_isGain 31 = .ok (.iadd, 1) := by decide +kernel
theorem dL_isGain_32 : decode cL_isGain 32 = .ok (.iload 4, 2) := by decide +kernel
theorem dL_isGain_34 : decode cL_isGain 34 = .ok (.iadd, 1) := by decide +kernel
theorem dL_isGain_35 : decode cL_isGain 35 = .ok (.laload, 1) := by decide +kernel
