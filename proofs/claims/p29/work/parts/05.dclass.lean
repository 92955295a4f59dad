theorem dX0_init_0 : decode cX0_init 0 = .ok (.aload_n 0, 1) := by decide +kernel
theorem dX0_init_1 : decode cX0_init 1 = .ok (.invokespecial 1, 3) := by decide +kernel
theorem dX0_init_4 : decode cX0_init 4 = .ok (.aload_n 0, 1) := by decide +kernel
theorem dX0_init_5 : decode cX0_init 5 = .ok (.sipush 1000, 3) := by decide +kernel
theorem dX0_init_8 : decode cX0_init 8 = .ok (.putfield 7, 3) := by decide +kernel
theorem dX0_init_11 : decode cX0_init 11 = .ok (.aload_n 0, 1) := by decide +kernel
theorem dX0_init_12 : decode cX0_init 12 = .ok (.bipush 100, 2) := by decide +kernel
theorem dX0_init_14 : decode cX0_init 14 = .ok (.putfield 13, 3) := by decide +kernel
theorem dX0_init_17 : decode cX0_init 17 = .ok (.aload_n 0, 1) := by decide +kernel
theorem dX0_init_18 : decode cX0_init 18 = .ok (.ldc 16, 2) := by decide +kernel
theorem dX0_init_20 : decode cX0_init 20 = .ok (.putfield 17, 3) := by decide +kernel
theorem dX0_init_23 : decode cX0_init 23 = .ok (.aload_n 0, 1) := by decide +kernel
theorem dX0_init_24 : decode cX0_init 24 = .ok (.sipush 500, 3) := by decide +kernel
theorem dX0_init_27 : decode cX0_init 27 = .ok (.putfield 20, 3) := by decide +kernel
theorem dX0_init_30 : decode cX0_init 30 = .ok (.aload_n 0, 1) := by decide +kernel
theorem dX0_init_31 : decode cX0_init 31 = .ok (.new 23, 3) := by decide +kernel
theorem dX0_init_34 : decode cX0_init 34 = .ok (.dup, 1) := by decide +kernel
theorem dX0_init_35 : decode cX0_init 35 = .ok (.invokespecial 25, 3) := by decide +kernel
theorem dX0_init_38 : decode cX0_init 38 = .ok (.putfield 26, 3) := by decide +kernel
theorem dX0_init_41 : decode cX0_init 41 = .ok (.return_, 1) := by decide +kernel
theorem dX0_error_0 : decode cX0_error 0 = .ok (.aload_n 0, 1) := by decide +kernel
theorem dX0_error_1 : decode cX0_error 1 = .ok (.getfield 30, 3) := by decide +kernel
theorem dX0_error_4 : decode cX0_error 4 = .ok (.aload_n 0, 1) := by decide +kernel
theorem dX0_error_5 : decode cX0_error 5 = .ok (.getfield 26, 3) := by decide +kernel
theorem dX0_error_8 : decode cX0_error 8 = .ok (.getfield 34, 3) := by decide +kernel
theorem dX0_error_11 : decode cX0_error 11 = .ok (.lsub, 1) := by decide +kernel
theorem dX0_error_12 : decode cX0_error 12 = .ok (.lreturn, 1) := by decide +kernel
theorem dX0_rate_0 : decode cX0_rate 0 = .ok (.aload_n 0, 1) := by decide +kernel
theorem dX0_rate_1 : decode cX0_rate 1 = .ok (.getfield 26, 3) := by decide +kernel
theorem dX0_rate_4 : decode cX0_rate 4 = .ok (.getfield 37, 3) := by decide +kernel
theorem dX0_rate_7 : decode cX0_rate 7 = .ok (.aload_n 0, 1) := by decide +kernel
theorem dX0_rate_8 : decode cX0_rate 8 = .ok (.getfield 26, 3) := by decide +kernel
theorem dX0_rate_11 : decode cX0_rate 11 = .ok (.getfield 34, 3) := by decide +kernel
theorem dX0_rate_14 : decode cX0_rate 14 = .ok (.lsub, 1) := by decide +kernel
theorem dX0_rate_15 : decode cX0_rate 15 = .ok (.lreturn, 1) := by decide +kernel
theorem dX0_withinLimits_0 : decode cX0_withinLimits 0 = .ok (.lload_n 1, 1) := by decide +kernel
theorem dX0_withinLimits_1 : decode cX0_withinLimits 1 = .ok (.aload_n 0, 1) := by decide +kernel
theorem dX0_withinLimits_2 : decode cX0_withinLimits 2 = .ok (.getfield 40, 3) := by decide +kernel
theorem dX0_withinLimits_5 : decode cX0_withinLimits 5 = .ok (.i2l, 1) := by decide +kernel
theorem dX0_withinLimits_6 : decode cX0_withinLimits 6 = .ok (.aload_n 0, 1) := by decide +kernel
theorem dX0_withinLimits_7 : decode cX0_withinLimits 7 = .ok (.getfield 17, 3) := by decide +kernel
theorem dX0_withinLimits_10 : decode cX0_withinLimits 10 = .ok (.i2l, 1) := by decide +kernel
theorem dX0_withinLimits_11 : decode cX0_withinLimits 11 = .ok (.invokestatic 43, 3) := by decide +kernel
theorem dX0_withinLimits_14 : decode cX0_withinLimits 14 = .ok (.lreturn, 1) := by decide +kernel
theorem dX0_changeGains_0 : decode cX0_changeGains 0 = .ok (.aload_n 0, 1) := by decide +kernel
theorem dX0_changeGains_1 : decode cX0_changeGains 1 = .ok (.dup, 1) := by decide +kernel
theorem dX0_changeGains_2 : decode cX0_changeGains 2 = .ok (.getfield 49, 3) := by decide +kernel
theorem dX0_changeGains_5 : decode cX0_changeGains 5 = .ok (.aload_n 0, 1) := by decide +kernel
theorem dX0_changeGains_6 : decode cX0_changeGains 6 = .ok (.getfield 7, 3) := by decide +kernel
theorem dX0_changeGains_9 : decode cX0_changeGains 9 = .ok (.iload_n 1, 1) := by decide +kernel
theorem dX0_changeGains_10 : decode cX0_changeGains 10 = .ok (.isub, 1) := by decide +kernel
theorem dX0_changeGains_11 : decode cX0_changeGains 11 = .ok (.i2l, 1) := by decide +kernel
theorem dX0_changeGains_12 : decode cX0_changeGains 12 = .ok (.aload_n 0, 1) := by decide +kernel
theorem dX0_changeGains_13 : decode cX0_changeGains 13 = .ok (.invokevirtual 52, 3) := by decide +kernel
theorem dX0_changeGains_16 : decode cX0_changeGains 16 = .ok (.lmul, 1) := by decide +kernel
theorem dX0_changeGains_17 : decode cX0_changeGains 17 = .ok (.aload_n 0, 1) := by decide +kernel
theorem dX0_changeGains_18 : decode cX0_changeGains 18 = .ok (.getfield 56, 3) := by decide +kernel
theorem dX0_changeGains_21 : decode cX0_changeGains 21 = .ok (.iload_n 3, 1) := by decide +kernel
theorem dX0_changeGains_22 : decode cX0_changeGains 22 = .ok (.isub, 1) := by decide +kernel
theorem dX0_changeGains_23 : decode cX0_changeGains 23 = .ok (.i2l, 1) := by decide +kernel
theorem dX0_changeGains_24 : decode cX0_changeGains 24 = .ok (.aload_n 0, 1) := by decide +kernel
theorem dX0_changeGains_25 : decode cX0_changeGains 25 = .ok (.invokevirtual 59, 3) := by decide +kernel
theorem dX0_changeGains_28 : decode cX0_changeGains 28 = .ok (.lmul, 1) := by decide +kernel
theorem dX0_changeGains_29 : decode cX0_changeGains 29 = .ok (.ladd, 1) := by decide +kernel
theorem dX0_changeGains_30 : decode cX0_changeGains 30 = .ok (.ladd, 1) := by decide +kernel
theorem dX0_changeGains_31 : decode cX0_changeGains 31 = .ok (.putfield 49, 3) := by decide +kernel
theorem dX0_changeGains_34 : decode cX0_changeGains 34 = .ok (.aload_n 0, 1) := by decide +kernel
theorem dX0_changeGains_35 : decode cX0_changeGains 35 = .ok (.iload_n 1, 1) := by decide +kernel
theorem dX0_changeGains_36 : decode cX0_changeGains 36 = .ok (.putfield 7, 3) := by decide +kernel
theorem dX0_changeGains_39 : decode cX0_changeGains 39 = .ok (.aload_n 0, 1) := by decide +kernel
theorem dX0_changeGains_40 : decode cX0_changeGains 40 = .ok (.iload_n 2, 1) := by decide +kernel
theorem dX0_changeGains_41 : decode cX0_changeGains 41 = .ok (.putfield 13, 3) := by decide +kernel
theorem dX0_changeGains_44 : decode cX0_changeGains 44 = .ok (.aload_n 0, 1) := by decide +kernel
theorem dX0_changeGains_45 : decode cX0_changeGains 45 = .ok (.iload_n 3, 1) := by decide +kernel
theorem dX0_changeGains_46 : decode cX0_changeGains 46 = .ok (.putfield 56, 3) := by decide +kernel
theorem dX0_changeGains_49 : decode cX0_changeGains 49 = .ok (.return_, 1) := by decide +kernel
theorem dX0_settle_0 : decode cX0_settle 0 = .ok (.aload_n 0, 1) := by decide +kernel
theorem dX0_settle_1 : decode cX0_settle 1 = .ok (.ldc2_w 62, 3) := by decide +kernel
theorem dX0_settle_4 : decode cX0_settle 4 = .ok (.lload_n 1, 1) := by decide +kernel
theorem dX0_settle_5 : decode cX0_settle 5 = .ok (.lmul, 1) := by decide +kernel
theorem dX0_settle_6 : decode cX0_settle 6 = .ok (.aload_n 0, 1) := by decide +kernel
theorem dX0_settle_7 : decode cX0_settle 7 = .ok (.getfield 7, 3) := by decide +kernel
theorem dX0_settle_10 : decode cX0_settle 10 = .ok (.i2l, 1) := by decide +kernel
theorem dX0_settle_11 : decode cX0_settle 11 = .ok (.aload_n 0, 1) := by decide +kernel
theorem dX0_settle_12 : decode cX0_settle 12 = .ok (.invokevirtual 52, 3) := by decide +kernel
theorem dX0_settle_15 : decode cX0_settle 15 = .ok (.lmul, 1) := by decide +kernel
theorem dX0_settle_16 : decode cX0_settle 16 = .ok (.lsub, 1) := by decide +kernel
theorem dX0_settle_17 : decode cX0_settle 17 = .ok (.aload_n 0, 1) := by decide +kernel
theorem dX0_settle_18 : decode cX0_settle 18 = .ok (.getfield 56, 3) := by decide +kernel
theorem dX0_settle_21 : decode cX0_settle 21 = .ok (.i2l, 1) := by decide +kernel
theorem dX0_settle_22 : decode cX0_settle 22 = .ok (.aload_n 0, 1) := by decide +kernel
theorem dX0_settle_23 : decode cX0_settle 23 = .ok (.invokevirtual 59, 3) := by decide +kernel
theorem dX0_settle_26 : decode cX0_settle 26 = .ok (.lmul, 1) := by decide +kernel
theorem dX0_settle_27 : decode cX0_settle 27 = .ok (.lsub, 1) := by decide +kernel
theorem dX0_settle_28 : decode cX0_settle 28 = .ok (.putfield 49, 3) := by decide +kernel
theorem dX0_settle_31 : decode cX0_settle 31 = .ok (.aload_n 0, 1) := by decide +kernel
theorem dX0_settle_32 : decode cX0_settle 32 = .ok (.iconst 0, 1) := by decide +kernel
theorem dX0_settle_33 : decode cX0_settle 33 = .ok (.putfield 64, 3) := by decide +kernel
theorem dX0_settle_36 : decode cX0_settle 36 = .ok (.return_, 1) := by decide +kernel
theorem dX0_automaticSample_0 : decode cX0_automaticSample 0 = .ok (.aload_n 0, 1) := by decide +kernel
theorem dX0_automaticSample_1 : decode cX0_automaticSample 1 = .ok (.invokevirtual 52, 3) := by decide +kernel
theorem dX0_automaticSample_4 : decode cX0_automaticSample 4 = .ok (.lstore_n 1, 1) := by decide +kernel
theorem dX0_automaticSample_5 : decode cX0_automaticSample 5 = .ok (.aload_n 0, 1) := by decide +kernel
theorem dX0_automaticSample_6 : decode cX0_automaticSample 6 = .ok (.invokevirtual 59, 3) := by decide +kernel
theorem dX0_automaticSample_9 : decode cX0_automaticSample 9 = .ok (.lstore_n 3, 1) := by decide +kernel
theorem dX0_automaticSample_10 : decode cX0_automaticSample 10 = .ok (.aload_n 0, 1) := by decide +kernel
theorem dX0_automaticSample_11 : decode cX0_automaticSample 11 = .ok (.dup, 1) := by decide +kernel
theorem dX0_automaticSample_12 : decode cX0_automaticSample 12 = .ok (.getfield 49, 3) := by decide +kernel
theorem dX0_automaticSample_15 : decode cX0_automaticSample 15 = .ok (.aload_n 0, 1) := by decide +kernel
theorem dX0_automaticSample_16 : decode cX0_automaticSample 16 = .ok (.getfield 13, 3) := by decide +kernel
theorem dX0_automaticSample_19 : decode cX0_automaticSample 19 = .ok (.i2l, 1) := by decide +kernel
theorem dX0_automaticSample_20 : decode cX0_automaticSample 20 = .ok (.lload_n 1, 1) := by decide +kernel
theorem dX0_automaticSample_21 : decode cX0_automaticSample 21 = .ok (.lmul, 1) := by decide +kernel
theorem dX0_automaticSample_22 : decode cX0_automaticSample 22 = .ok (.ladd, 1) := by decide +kernel
theorem dX0_automaticSample_23 : decode cX0_automaticSample 23 = .ok (.putfield 49, 3) := by decide +kernel
theorem dX0_automaticSample_26 : decode cX0_automaticSample 26 = .ok (.aload_n 0, 1) := by decide +kernel
theorem dX0_automaticSample_27 : decode cX0_automaticSample 27 = .ok (.getfield 7, 3) := by decide +kernel
theorem dX0_automaticSample_30 : decode cX0_automaticSample 30 = .ok (.i2l, 1) := by decide +kernel
theorem dX0_automaticSample_31 : decode cX0_automaticSample 31 = .ok (.lload_n 1, 1) := by decide +kernel
theorem dX0_automaticSample_32 : decode cX0_automaticSample 32 = .ok (.lmul, 1) := by decide +kernel
theorem dX0_automaticSample_33 : decode cX0_automaticSample 33 = .ok (.aload_n 0, 1) := by decide +kernel
theorem dX0_automaticSample_34 : decode cX0_automaticSample 34 = .ok (.getfield 49, 3) := by decide +kernel
theorem dX0_automaticSample_37 : decode cX0_automaticSample 37 = .ok (.ladd, 1) := by decide +kernel
theorem dX0_automaticSample_38 : decode cX0_automaticSample 38 = .ok (.aload_n 0, 1) := by decide +kernel
theorem dX0_automaticSample_39 : decode cX0_automaticSample 39 = .ok (.getfield 56, 3) := by decide +kernel
theorem dX0_automaticSample_42 : decode cX0_automaticSample 42 = .ok (.i2l, 1) := by decide +kernel
theorem dX0_automaticSample_43 : decode cX0_automaticSample 43 = .ok (.lload_n 3, 1) := by decide +kernel
theorem dX0_automaticSample_44 : decode cX0_automaticSample 44 = .ok (.lmul, 1) := by decide +kernel
theorem dX0_automaticSample_45 : decode cX0_automaticSample 45 = .ok (.ladd, 1) := by decide +kernel
theorem dX0_automaticSample_46 : decode cX0_automaticSample 46 = .ok (.lstore 5, 2) := by decide +kernel
theorem dX0_automaticSample_48 : decode cX0_automaticSample 48 = .ok (.aload_n 0, 1) := by decide +kernel
theorem dX0_automaticSample_49 : decode cX0_automaticSample 49 = .ok (.lload_n 1, 1) := by decide +kernel
theorem dX0_automaticSample_50 : decode cX0_automaticSample 50 = .ok (.lload_n 3, 1) := by decide +kernel
theorem dX0_automaticSample_51 : decode cX0_automaticSample 51 = .ok (.lload 5, 2) := by decide +kernel
theorem dX0_automaticSample_53 : decode cX0_automaticSample 53 = .ok (.invokevirtual 68, 3) := by decide +kernel
theorem dX0_automaticSample_56 : decode cX0_automaticSample 56 = .ok (.lload 5, 2) := by decide +kernel
theorem dX0_automaticSample_58 : decode cX0_automaticSample 58 = .ok (.ldc2_w 62, 3) := by decide +kernel
theorem dX0_automaticSample_61 : decode cX0_automaticSample 61 = .ok (.invokestatic 72, 3) := by decide +kernel
theorem dX0_automaticSample_64 : decode cX0_automaticSample 64 = .ok (.lstore 7, 2) := by decide +kernel
theorem dX0_automaticSample_66 : decode cX0_automaticSample 66 = .ok (.aload_n 0, 1) := by decide +kernel
theorem dX0_automaticSample_67 : decode cX0_automaticSample 67 = .ok (.lload 7, 2) := by decide +kernel
theorem dX0_automaticSample_69 : decode cX0_automaticSample 69 = .ok (.invokevirtual 78, 3) := by decide +kernel
theorem dX0_automaticSample_72 : decode cX0_automaticSample 72 = .ok (.lstore 9, 2) := by decide +kernel
theorem dX0_automaticSample_74 : decode cX0_automaticSample 74 = .ok (.lload 9, 2) := by decide +kernel
theorem dX0_automaticSample_76 : decode cX0_automaticSample 76 = .ok (.lload 7, 2) := by decide +kernel
theorem dX0_automaticSample_78 : decode cX0_automaticSample 78 = .ok (.lcmp, 1) := by decide +kernel
theorem dX0_automaticSample_79 : decode cX0_automaticSample 79 = .ok (.ifCond .eq 13, 3) := by decide +kernel
theorem dX0_automaticSample_82 : decode cX0_automaticSample 82 = .ok (.aload_n 0, 1) := by decide +kernel
theorem dX0_automaticSample_83 : decode cX0_automaticSample 83 = .ok (.dup, 1) := by decide +kernel
theorem dX0_automaticSample_84 : decode cX0_automaticSample 84 = .ok (.getfield 82, 3) := by decide +kernel
theorem dX0_automaticSample_87 : decode cX0_automaticSample 87 = .ok (.iconst 1, 1) := by decide +kernel
theorem dX0_automaticSample_88 : decode cX0_automaticSample 88 = .ok (.iadd, 1) := by decide +kernel
theorem dX0_automaticSample_89 : decode cX0_automaticSample 89 = .ok (.putfield 82, 3) := by decide +kernel
theorem dX0_automaticSample_92 : decode cX0_automaticSample 92 = .ok (.aload_n 0, 1) := by decide +kernel
theorem dX0_automaticSample_93 : decode cX0_automaticSample 93 = .ok (.lload_n 1, 1) := by decide +kernel
theorem dX0_automaticSample_94 : decode cX0_automaticSample 94 = .ok (.lload 7, 2) := by decide +kernel
theorem dX0_automaticSample_96 : decode cX0_automaticSample 96 = .ok (.lload 9, 2) := by decide +kernel
theorem dX0_automaticSample_98 : decode cX0_automaticSample 98 = .ok (.invokevirtual 85, 3) := by decide +kernel
theorem dX0_automaticSample_101 : decode cX0_automaticSample 101 = .ok (.lload 9, 2) := by decide +kernel
theorem dX0_automaticSample_103 : decode cX0_automaticSample 103 = .ok (.lreturn, 1) := by decide +kernel
theorem dX0_countIncrements_0 : decode cX0_countIncrements 0 = .ok (.aload_n 0, 1) := by decide +kernel
theorem dX0_countIncrements_1 : decode cX0_countIncrements 1 = .ok (.getfield 64, 3) := by decide +kernel
theorem dX0_countIncrements_4 : decode cX0_countIncrements 4 = .ok (.ifCond .eq 48, 3) := by decide +kernel
theorem dX0_countIncrements_7 : decode cX0_countIncrements 7 = .ok (.aload_n 0, 1) := by decide +kernel
theorem dX0_countIncrements_8 : decode cX0_countIncrements 8 = .ok (.dup, 1) := by decide +kernel
theorem dX0_countIncrements_9 : decode cX0_countIncrements 9 = .ok (.getfield 88, 3) := by decide +kernel
theorem dX0_countIncrements_12 : decode cX0_countIncrements 12 = .ok (.aload_n 0, 1) := by decide +kernel
theorem dX0_countIncrements_13 : decode cX0_countIncrements 13 = .ok (.getfield 7, 3) := by decide +kernel
theorem dX0_countIncrements_16 : decode cX0_countIncrements 16 = .ok (.i2l, 1) := by decide +kernel
theorem dX0_countIncrements_17 : decode cX0_countIncrements 17 = .ok (.lload_n 1, 1) := by decide +kernel
theorem dX0_countIncrements_18 : decode cX0_countIncrements 18 = .ok (.aload_n 0, 1) := by decide +kernel
theorem dX0_countIncrements_19 : decode cX0_countIncrements 19 = .ok (.getfield 91, 3) := by decide +kernel
theorem dX0_countIncrements_22 : decode cX0_countIncrements 22 = .ok (.lsub, 1) := by decide +kernel
theorem dX0_countIncrements_23 : decode cX0_countIncrements 23 = .ok (.lmul, 1) := by decide +kernel
theorem dX0_countIncrements_24 : decode cX0_countIncrements 24 = .ok (.aload_n 0, 1) := by decide +kernel
theorem dX0_countIncrements_25 : decode cX0_countIncrements 25 = .ok (.getfield 13, 3) := by decide +kernel
theorem dX0_countIncrements_28 : decode cX0_countIncrements 28 = .ok (.i2l, 1) := by decide +kernel
theorem dX0_countIncrements_29 : decode cX0_countIncrements 29 = .ok (.lload_n 1, 1) := by decide +kernel
theorem dX0_countIncrements_30 : decode cX0_countIncrements 30 = .ok (.lmul, 1) := by decide +kernel
theorem dX0_countIncrements_31 : decode cX0_countIncrements 31 = .ok (.ladd, 1) := by decide +kernel
theorem dX0_countIncrements_32 : decode cX0_countIncrements 32 = .ok (.aload_n 0, 1) := by decide +kernel
theorem dX0_countIncrements_33 : decode cX0_countIncrements 33 = .ok (.getfield 56, 3) := by decide +kernel
theorem dX0_countIncrements_36 : decode cX0_countIncrements 36 = .ok (.i2l, 1) := by decide +kernel
theorem dX0_countIncrements_37 : decode cX0_countIncrements 37 = .ok (.lload_n 3, 1) := by decide +kernel
theorem dX0_countIncrements_38 : decode cX0_countIncrements 38 = .ok (.aload_n 0, 1) := by decide +kernel
theorem dX0_countIncrements_39 : decode cX0_countIncrements 39 = .ok (.getfield 94, 3) := by decide +kernel
theorem dX0_countIncrements_42 : decode cX0_countIncrements 42 = .ok (.lsub, 1) := by decide +kernel
theorem dX0_countIncrements_43 : decode cX0_countIncrements 43 = .ok (.lmul, 1) := by decide +kernel
theorem dX0_countIncrements_44 : decode cX0_countIncrements 44 = .ok (.ladd, 1) := by decide +kernel
theorem dX0_countIncrements_45 : decode cX0_countIncrements 45 = .ok (.ladd, 1) := by decide +kernel
theorem dX0_countIncrements_46 : decode cX0_countIncrements 46 = .ok (.putfield 88, 3) := by decide +kernel
theorem dX0_countIncrements_49 : decode cX0_countIncrements 49 = .ok (.goto 9, 3) := by decide +kernel
theorem dX0_countIncrements_52 : decode cX0_countIncrements 52 = .ok (.aload_n 0, 1) := by decide +kernel
theorem dX0_countIncrements_53 : decode cX0_countIncrements 53 = .ok (.lload 5, 2) := by decide +kernel
theorem dX0_countIncrements_55 : decode cX0_countIncrements 55 = .ok (.putfield 88, 3) := by decide +kernel
theorem dX0_countIncrements_58 : decode cX0_countIncrements 58 = .ok (.aload_n 0, 1) := by decide +kernel
theorem dX0_countIncrements_59 : decode cX0_countIncrements 59 = .ok (.lload_n 1, 1) := by decide +kernel
theorem dX0_countIncrements_60 : decode cX0_countIncrements 60 = .ok (.putfield 91, 3) := by decide +kernel
theorem dX0_countIncrements_63 : decode cX0_countIncrements 63 = .ok (.aload_n 0, 1) := by decide +kernel
theorem dX0_countIncrements_64 : decode cX0_countIncrements 64 = .ok (.lload_n 3, 1) := by decide +kernel
theorem dX0_countIncrements_65 : decode cX0_countIncrements 65 = .ok (.putfield 94, 3) := by decide +kernel
theorem dX0_countIncrements_68 : decode cX0_countIncrements 68 = .ok (.aload_n 0, 1) := by decide +kernel
theorem dX0_countIncrements_69 : decode cX0_countIncrements 69 = .ok (.iconst 1, 1) := by decide +kernel
theorem dX0_countIncrements_70 : decode cX0_countIncrements 70 = .ok (.putfield 64, 3) := by decide +kernel
theorem dX0_countIncrements_73 : decode cX0_countIncrements 73 = .ok (.return_, 1) := by decide +kernel
theorem dX0_guardAgainstWindup_0 : decode cX0_guardAgainstWindup 0 = .ok (.aload_n 0, 1) := by decide +kernel
theorem dX0_guardAgainstWindup_1 : decode cX0_guardAgainstWindup 1 = .ok (.getfield 97, 3) := by decide +kernel
theorem dX0_guardAgainstWindup_4 : decode cX0_guardAgainstWindup 4 = .ok (.iconst 1, 1) := by decide +kernel
theorem dX0_guardAgainstWindup_5 : decode cX0_guardAgainstWindup 5 = .ok (.if_icmp .ne 66, 3) := by decide +kernel
theorem dX0_guardAgainstWindup_8 : decode cX0_guardAgainstWindup 8 = .ok (.lload_n 3, 1) := by decide +kernel
theorem dX0_guardAgainstWindup_9 : decode cX0_guardAgainstWindup 9 = .ok (.aload_n 0, 1) := by decide +kernel
theorem dX0_guardAgainstWindup_10 : decode cX0_guardAgainstWindup 10 = .ok (.getfield 17, 3) := by decide +kernel
theorem dX0_guardAgainstWindup_13 : decode cX0_guardAgainstWindup 13 = .ok (.i2l, 1) := by decide +kernel
theorem dX0_guardAgainstWindup_14 : decode cX0_guardAgainstWindup 14 = .ok (.lcmp, 1) := by decide +kernel
theorem dX0_guardAgainstWindup_15 : decode cX0_guardAgainstWindup 15 = .ok (.ifCond .le 9, 3) := by decide +kernel
theorem dX0_guardAgainstWindup_18 : decode cX0_guardAgainstWindup 18 = .ok (.lload_n 1, 1) := by decide +kernel
theorem dX0_guardAgainstWindup_19 : decode cX0_guardAgainstWindup 19 = .ok (.lconst 0, 1) := by decide +kernel
theorem dX0_guardAgainstWindup_20 : decode cX0_guardAgainstWindup 20 = .ok (.lcmp, 1) := by decide +kernel
theorem dX0_guardAgainstWindup_21 : decode cX0_guardAgainstWindup 21 = .ok (.ifCond .gt 19, 3) := by decide +kernel
theorem dX0_guardAgainstWindup_24 : decode cX0_guardAgainstWindup 24 = .ok (.lload_n 3, 1) := by decide +kernel
theorem dX0_guardAgainstWindup_25 : decode cX0_guardAgainstWindup 25 = .ok (.aload_n 0, 1) := by decide +kernel
theorem dX0_guardAgainstWindup_26 : decode cX0_guardAgainstWindup 26 = .ok (.getfield 40, 3) := by decide +kernel
theorem dX0_guardAgainstWindup_29 : decode cX0_guardAgainstWindup 29 = .ok (.i2l, 1) := by decide +kernel
theorem dX0_guardAgainstWindup_30 : decode cX0_guardAgainstWindup 30 = .ok (.lcmp, 1) := by decide +kernel
theorem dX0_guardAgainstWindup_31 : decode cX0_guardAgainstWindup 31 = .ok (.ifCond .ge 13, 3) := by decide +kernel
theorem dX0_guardAgainstWindup_34 : decode cX0_guardAgainstWindup 34 = .ok (.lload_n 1, 1) := by decide +kernel
theorem dX0_guardAgainstWindup_35 : decode cX0_guardAgainstWindup 35 = .ok (.lconst 0, 1) := by decide +kernel
theorem dX0_guardAgainstWindup_36 : decode cX0_guardAgainstWindup 36 = .ok (.lcmp, 1) := by decide +kernel
theorem dX0_guardAgainstWindup_37 : decode cX0_guardAgainstWindup 37 = .ok (.ifCond .ge 7, 3) := by decide +kernel
theorem dX0_guardAgainstWindup_40 : decode cX0_guardAgainstWindup 40 = .ok (.iconst 1, 1) := by decide +kernel
theorem dX0_guardAgainstWindup_41 : decode cX0_guardAgainstWindup 41 = .ok (.goto 4, 3) := by decide +kernel
theorem dX0_guardAgainstWindup_44 : decode cX0_guardAgainstWindup 44 = .ok (.iconst 0, 1) := by decide +kernel
theorem dX0_guardAgainstWindup_45 : decode cX0_guardAgainstWindup 45 = .ok (.istore 7, 2) := by decide +kernel
theorem dX0_guardAgainstWindup_47 : decode cX0_guardAgainstWindup 47 = .ok (.iload 7, 2) := by decide +kernel
theorem dX0_guardAgainstWindup_49 : decode cX0_guardAgainstWindup 49 = .ok (.ifCond .eq 19, 3) := by decide +kernel
theorem dX0_guardAgainstWindup_52 : decode cX0_guardAgainstWindup 52 = .ok (.aload_n 0, 1) := by decide +kernel
theorem dX0_guardAgainstWindup_53 : decode cX0_guardAgainstWindup 53 = .ok (.dup, 1) := by decide +kernel
theorem dX0_guardAgainstWindup_54 : decode cX0_guardAgainstWindup 54 = .ok (.getfield 49, 3) := by decide +kernel
theorem dX0_guardAgainstWindup_57 : decode cX0_guardAgainstWindup 57 = .ok (.aload_n 0, 1) := by decide +kernel
theorem dX0_guardAgainstWindup_58 : decode cX0_guardAgainstWindup 58 = .ok (.getfield 13, 3) := by decide +kernel
theorem dX0_guardAgainstWindup_61 : decode cX0_guardAgainstWindup 61 = .ok (.i2l, 1) := by decide +kernel
theorem dX0_guardAgainstWindup_62 : decode cX0_guardAgainstWindup 62 = .ok (.lload_n 1, 1) := by decide +kernel
theorem dX0_guardAgainstWindup_63 : decode cX0_guardAgainstWindup 63 = .ok (.lmul, 1) := by decide +kernel
theorem dX0_guardAgainstWindup_64 : decode cX0_guardAgainstWindup 64 = .ok (.lsub, 1) := by decide +kernel
theorem dX0_guardAgainstWindup_65 : decode cX0_guardAgainstWindup 65 = .ok (.putfield 49, 3) := by decide +kernel
theorem dX0_guardAgainstWindup_68 : decode cX0_guardAgainstWindup 68 = .ok (.goto 30, 3) := by decide +kernel
theorem dX0_guardAgainstWindup_71 : decode cX0_guardAgainstWindup 71 = .ok (.aload_n 0, 1) := by decide +kernel
theorem dX0_guardAgainstWindup_72 : decode cX0_guardAgainstWindup 72 = .ok (.getfield 97, 3) := by decide +kernel
theorem dX0_guardAgainstWindup_75 : decode cX0_guardAgainstWindup 75 = .ok (.iconst 2, 1) := by decide +kernel
theorem dX0_guardAgainstWindup_76 : decode cX0_guardAgainstWindup 76 = .ok (.if_icmp .ne 22, 3) := by decide +kernel
theorem dX0_guardAgainstWindup_79 : decode cX0_guardAgainstWindup 79 = .ok (.aload_n 0, 1) := by decide +kernel
theorem dX0_guardAgainstWindup_80 : decode cX0_guardAgainstWindup 80 = .ok (.dup, 1) := by decide +kernel
theorem dX0_guardAgainstWindup_81 : decode cX0_guardAgainstWindup 81 = .ok (.getfield 49, 3) := by decide +kernel
theorem dX0_guardAgainstWindup_84 : decode cX0_guardAgainstWindup 84 = .ok (.aload_n 0, 1) := by decide +kernel
theorem dX0_guardAgainstWindup_85 : decode cX0_guardAgainstWindup 85 = .ok (.getfield 20, 3) := by decide +kernel
theorem dX0_guardAgainstWindup_88 : decode cX0_guardAgainstWindup 88 = .ok (.i2l, 1) := by decide +kernel
theorem dX0_guardAgainstWindup_89 : decode cX0_guardAgainstWindup 89 = .ok (.lload 5, 2) := by decide +kernel
theorem dX0_guardAgainstWindup_91 : decode cX0_guardAgainstWindup 91 = .ok (.lload_n 3, 1) := by decide +kernel
theorem dX0_guardAgainstWindup_92 : decode cX0_guardAgainstWindup 92 = .ok (.lsub, 1) := by decide +kernel
theorem dX0_guardAgainstWindup_93 : decode cX0_guardAgainstWindup 93 = .ok (.lmul, 1) := by decide +kernel
theorem dX0_guardAgainstWindup_94 : decode cX0_guardAgainstWindup 94 = .ok (.ladd, 1) := by decide +kernel
theorem dX0_guardAgainstWindup_95 : decode cX0_guardAgainstWindup 95 = .ok (.putfield 49, 3) := by decide +kernel
theorem dX0_guardAgainstWindup_98 : decode cX0_guardAgainstWindup 98 = .ok (.return_, 1) := by decide +kernel
theorem dX1_init_0 : decode cX1_init 0 = .ok (.aload_n 0, 1) := by decide +kernel
theorem dX1_init_1 : decode cX1_init 1 = .ok (.invokespecial 3, 3) := by decide +kernel
theorem dX1_init_4 : decode cX1_init 4 = .ok (.aload_n 0, 1) := by decide +kernel
theorem dX1_init_5 : decode cX1_init 5 = .ok (.new 9, 3) := by decide +kernel
theorem dX1_init_8 : decode cX1_init 8 = .ok (.dup, 1) := by decide +kernel
theorem dX1_init_9 : decode cX1_init 9 = .ok (.invokespecial 11, 3) := by decide +kernel
theorem dX1_init_12 : decode cX1_init 12 = .ok (.putfield 12, 3) := by decide +kernel
theorem dX1_init_15 : decode cX1_init 15 = .ok (.aload_n 0, 1) := by decide +kernel
theorem dX1_init_16 : decode cX1_init 16 = .ok (.aload_n 0, 1) := by decide +kernel
theorem dX1_init_17 : decode cX1_init 17 = .ok (.getfield 12, 3) := by decide +kernel
theorem dX1_init_20 : decode cX1_init 20 = .ok (.getfield 18, 3) := by decide +kernel
theorem dX1_init_23 : decode cX1_init 23 = .ok (.putfield 22, 3) := by decide +kernel
theorem dX1_init_26 : decode cX1_init 26 = .ok (.aload_n 0, 1) := by decide +kernel
theorem dX1_init_27 : decode cX1_init 27 = .ok (.new 23, 3) := by decide +kernel
theorem dX1_init_30 : decode cX1_init 30 = .ok (.dup, 1) := by decide +kernel
theorem dX1_init_31 : decode cX1_init 31 = .ok (.invokespecial 25, 3) := by decide +kernel
theorem dX1_init_34 : decode cX1_init 34 = .ok (.putfield 26, 3) := by decide +kernel
theorem dX1_init_37 : decode cX1_init 37 = .ok (.aload_n 0, 1) := by decide +kernel
theorem dX1_init_38 : decode cX1_init 38 = .ok (.new 30, 3) := by decide +kernel
theorem dX1_init_41 : decode cX1_init 41 = .ok (.dup, 1) := by decide +kernel
theorem dX1_init_42 : decode cX1_init 42 = .ok (.invokespecial 32, 3) := by decide +kernel
theorem dX1_init_45 : decode cX1_init 45 = .ok (.putfield 33, 3) := by decide +kernel
theorem dX1_init_48 : decode cX1_init 48 = .ok (.aload_n 0, 1) := by decide +kernel
theorem dX1_init_49 : decode cX1_init 49 = .ok (.iconst 0, 1) := by decide +kernel
theorem dX1_init_50 : decode cX1_init 50 = .ok (.putfield 37, 3) := by decide +kernel
theorem dX1_init_53 : decode cX1_init 53 = .ok (.return_, 1) := by decide +kernel
theorem dX1_changeMode_0 : decode cX1_changeMode 0 = .ok (.iload_n 1, 1) := by decide +kernel
theorem dX1_changeMode_1 : decode cX1_changeMode 1 = .ok (.aload_n 0, 1) := by decide +kernel
theorem dX1_changeMode_2 : decode cX1_changeMode 2 = .ok (.getfield 37, 3) := by decide +kernel
theorem dX1_changeMode_5 : decode cX1_changeMode 5 = .ok (.if_icmp .ne 4, 3) := by decide +kernel
theorem dX1_changeMode_8 : decode cX1_changeMode 8 = .ok (.return_, 1) := by decide +kernel
theorem dX1_changeMode_9 : decode cX1_changeMode 9 = .ok (.iload_n 1, 1) := by decide +kernel
theorem dX1_changeMode_10 : decode cX1_changeMode 10 = .ok (.ifCond .ne 10, 3) := by decide +kernel
theorem dX1_changeMode_13 : decode cX1_changeMode 13 = .ok (.aload_n 0, 1) := by decide +kernel
theorem dX1_changeMode_14 : decode cX1_changeMode 14 = .ok (.invokevirtual 41, 3) := by decide +kernel
theorem dX1_changeMode_17 : decode cX1_changeMode 17 = .ok (.goto 21, 3) := by decide +kernel
theorem dX1_changeMode_20 : decode cX1_changeMode 20 = .ok (.aload_n 0, 1) := by decide +kernel
theorem dX1_changeMode_21 : decode cX1_changeMode 21 = .ok (.getfield 37, 3) := by decide +kernel
theorem dX1_changeMode_24 : decode cX1_changeMode 24 = .ok (.ifCond .ne 14, 3) := by decide +kernel
theorem dX1_changeMode_27 : decode cX1_changeMode 27 = .ok (.aload_n 0, 1) := by decide +kernel
theorem dX1_changeMode_28 : decode cX1_changeMode 28 = .ok (.getfield 12, 3) := by decide +kernel
theorem dX1_changeMode_31 : decode cX1_changeMode 31 = .ok (.aload_n 0, 1) := by decide +kernel
theorem dX1_changeMode_32 : decode cX1_changeMode 32 = .ok (.getfield 44, 3) := by decide +kernel
theorem dX1_changeMode_35 : decode cX1_changeMode 35 = .ok (.invokevirtual 48, 3) := by decide +kernel
theorem dX1_changeMode_38 : decode cX1_changeMode 38 = .ok (.aload_n 0, 1) := by decide +kernel
theorem dX1_changeMode_39 : decode cX1_changeMode 39 = .ok (.iload_n 1, 1) := by decide +kernel
theorem dX1_changeMode_40 : decode cX1_changeMode 40 = .ok (.putfield 37, 3) := by decide +kernel
theorem dX1_changeMode_43 : decode cX1_changeMode 43 = .ok (.return_, 1) := by decide +kernel
theorem dX1_goToHand_0 : decode cX1_goToHand 0 = .ok (.aload_n 0, 1) := by decide +kernel
theorem dX1_goToHand_1 : decode cX1_goToHand 1 = .ok (.aload_n 0, 1) := by decide +kernel
theorem dX1_goToHand_2 : decode cX1_goToHand 2 = .ok (.getfield 44, 3) := by decide +kernel
theorem dX1_goToHand_5 : decode cX1_goToHand 5 = .ok (.putfield 52, 3) := by decide +kernel
theorem dX1_goToHand_8 : decode cX1_goToHand 8 = .ok (.aload_n 0, 1) := by decide +kernel
theorem dX1_goToHand_9 : decode cX1_goToHand 9 = .ok (.getfield 37, 3) := by decide +kernel
theorem dX1_goToHand_12 : decode cX1_goToHand 12 = .ok (.iconst 3, 1) := by decide +kernel
theorem dX1_goToHand_13 : decode cX1_goToHand 13 = .ok (.if_icmp .ne 10, 3) := by decide +kernel
theorem dX1_goToHand_16 : decode cX1_goToHand 16 = .ok (.aload_n 0, 1) := by decide +kernel
theorem dX1_goToHand_17 : decode cX1_goToHand 17 = .ok (.getfield 33, 3) := by decide +kernel
theorem dX1_goToHand_20 : decode cX1_goToHand 20 = .ok (.invokevirtual 55, 3) := by decide +kernel
theorem dX1_goToHand_23 : decode cX1_goToHand 23 = .ok (.return_, 1) := by decide +kernel
theorem dX1_isStarvedBy_0 : decode cX1_isStarvedBy 0 = .ok (.aload_n 0, 1) := by decide +kernel
theorem dX1_isStarvedBy_1 : decode cX1_isStarvedBy 1 = .ok (.getfield 37, 3) := by decide +kernel
theorem dX1_isStarvedBy_4 : decode cX1_isStarvedBy 4 = .ok (.iconst 1, 1) := by decide +kernel
theorem dX1_isStarvedBy_5 : decode cX1_isStarvedBy 5 = .ok (.if_icmp .eq 11, 3) := by decide +kernel
theorem dX1_isStarvedBy_8 : decode cX1_isStarvedBy 8 = .ok (.aload_n 0, 1) := by decide +kernel
theorem dX1_isStarvedBy_9 : decode cX1_isStarvedBy 9 = .ok (.getfield 37, 3) := by decide +kernel
theorem dX1_isStarvedBy_12 : decode cX1_isStarvedBy 12 = .ok (.iconst 2, 1) := by decide +kernel
theorem dX1_isStarvedBy_13 : decode cX1_isStarvedBy 13 = .ok (.if_icmp .ne 7, 3) := by decide +kernel
theorem dX1_isStarvedBy_16 : decode cX1_isStarvedBy 16 = .ok (.iconst 1, 1) := by decide +kernel
theorem dX1_isStarvedBy_17 : decode cX1_isStarvedBy 17 = .ok (.goto 4, 3) := by decide +kernel
theorem dX1_isStarvedBy_20 : decode cX1_isStarvedBy 20 = .ok (.iconst 0, 1) := by decide +kernel
theorem dX1_isStarvedBy_21 : decode cX1_isStarvedBy 21 = .ok (.istore_n 2, 1) := by decide +kernel
theorem dX1_isStarvedBy_22 : decode cX1_isStarvedBy 22 = .ok (.iload_n 2, 1) := by decide +kernel
theorem dX1_isStarvedBy_23 : decode cX1_isStarvedBy 23 = .ok (.ifCond .eq 22, 3) := by decide +kernel
theorem dX1_isStarvedBy_26 : decode cX1_isStarvedBy 26 = .ok (.aload_n 1, 1) := by decide +kernel
theorem dX1_isStarvedBy_27 : decode cX1_isStarvedBy 27 = .ok (.getfield 58, 3) := by decide +kernel
theorem dX1_isStarvedBy_30 : decode cX1_isStarvedBy 30 = .ok (.ifCond .eq 15, 3) := by decide +kernel
theorem dX1_isStarvedBy_33 : decode cX1_isStarvedBy 33 = .ok (.aload_n 1, 1) := by decide +kernel
theorem dX1_isStarvedBy_34 : decode cX1_isStarvedBy 34 = .ok (.getfield 37, 3) := by decide +kernel
theorem dX1_isStarvedBy_37 : decode cX1_isStarvedBy 37 = .ok (.iconst 2, 1) := by decide +kernel
theorem dX1_isStarvedBy_38 : decode cX1_isStarvedBy 38 = .ok (.if_icmp .eq 7, 3) := by decide +kernel
theorem dX1_isStarvedBy_41 : decode cX1_isStarvedBy 41 = .ok (.iconst 1, 1) := by decide +kernel
theorem dX1_isStarvedBy_42 : decode cX1_isStarvedBy 42 = .ok (.goto 4, 3) := by decide +kernel
theorem dX1_isStarvedBy_45 : decode cX1_isStarvedBy 45 = .ok (.iconst 0, 1) := by decide +kernel
theorem dX1_isStarvedBy_46 : decode cX1_isStarvedBy 46 = .ok (.ireturn, 1) := by decide +kernel
theorem dX1_giveWay_0 : decode cX1_giveWay 0 = .ok (.aload_n 0, 1) := by decide +kernel
theorem dX1_giveWay_1 : decode cX1_giveWay 1 = .ok (.iconst 1, 1) := by decide +kernel
theorem dX1_giveWay_2 : decode cX1_giveWay 2 = .ok (.putfield 62, 3) := by decide +kernel
theorem dX1_giveWay_5 : decode cX1_giveWay 5 = .ok (.aload_n 0, 1) := by decide +kernel
theorem dX1_giveWay_6 : decode cX1_giveWay 6 = .ok (.aload_n 0, 1) := by decide +kernel
theorem dX1_giveWay_7 : decode cX1_giveWay 7 = .ok (.getfield 12, 3) := by decide +kernel
theorem dX1_giveWay_10 : decode cX1_giveWay 10 = .ok (.lload_n 1, 1) := by decide +kernel
theorem dX1_giveWay_11 : decode cX1_giveWay 11 = .ok (.invokevirtual 65, 3) := by decide +kernel
theorem dX1_giveWay_14 : decode cX1_giveWay 14 = .ok (.putfield 44, 3) := by decide +kernel
theorem dX1_giveWay_17 : decode cX1_giveWay 17 = .ok (.aload_n 0, 1) := by decide +kernel
theorem dX1_giveWay_18 : decode cX1_giveWay 18 = .ok (.getfield 12, 3) := by decide +kernel
theorem dX1_giveWay_21 : decode cX1_giveWay 21 = .ok (.aload_n 0, 1) := by decide +kernel
theorem dX1_giveWay_22 : decode cX1_giveWay 22 = .ok (.getfield 44, 3) := by decide +kernel
theorem dX1_giveWay_25 : decode cX1_giveWay 25 = .ok (.invokevirtual 48, 3) := by decide +kernel
theorem dX1_giveWay_28 : decode cX1_giveWay 28 = .ok (.return_, 1) := by decide +kernel
theorem dX1_actByHand_0 : decode cX1_actByHand 0 = .ok (.aload_n 0, 1) := by decide +kernel
theorem dX1_actByHand_1 : decode cX1_actByHand 1 = .ok (.getfield 69, 3) := by decide +kernel
theorem dX1_actByHand_4 : decode cX1_actByHand 4 = .ok (.ifCond .eq 17, 3) := by decide +kernel
theorem dX1_actByHand_7 : decode cX1_actByHand 7 = .ok (.aload_n 0, 1) := by decide +kernel
theorem dX1_actByHand_8 : decode cX1_actByHand 8 = .ok (.getfield 12, 3) := by decide +kernel
theorem dX1_actByHand_11 : decode cX1_actByHand 11 = .ok (.aload_n 0, 1) := by decide +kernel
theorem dX1_actByHand_12 : decode cX1_actByHand 12 = .ok (.getfield 22, 3) := by decide +kernel
theorem dX1_actByHand_15 : decode cX1_actByHand 15 = .ok (.getfield 72, 3) := by decide +kernel
theorem dX1_actByHand_18 : decode cX1_actByHand 18 = .ok (.putfield 77, 3) := by decide +kernel
theorem dX1_actByHand_21 : decode cX1_actByHand 21 = .ok (.aload_n 0, 1) := by decide +kernel
theorem dX1_actByHand_22 : decode cX1_actByHand 22 = .ok (.aload_n 0, 1) := by decide +kernel
theorem dX1_actByHand_23 : decode cX1_actByHand 23 = .ok (.getfield 12, 3) := by decide +kernel
theorem dX1_actByHand_26 : decode cX1_actByHand 26 = .ok (.aload_n 0, 1) := by decide +kernel
theorem dX1_actByHand_27 : decode cX1_actByHand 27 = .ok (.getfield 52, 3) := by decide +kernel
theorem dX1_actByHand_30 : decode cX1_actByHand 30 = .ok (.invokevirtual 65, 3) := by decide +kernel
theorem dX1_actByHand_33 : decode cX1_actByHand 33 = .ok (.putfield 44, 3) := by decide +kernel
theorem dX1_actByHand_36 : decode cX1_actByHand 36 = .ok (.return_, 1) := by decide +kernel
theorem dX1_actAutomatically_0 : decode cX1_actAutomatically 0 = .ok (.aload_n 0, 1) := by decide +kernel
theorem dX1_actAutomatically_1 : decode cX1_actAutomatically 1 = .ok (.getfield 26, 3) := by decide +kernel
theorem dX1_actAutomatically_4 : decode cX1_actAutomatically 4 = .ok (.invokevirtual 80, 3) := by decide +kernel
theorem dX1_actAutomatically_7 : decode cX1_actAutomatically 7 = .ok (.ifCond .eq 54, 3) := by decide +kernel
theorem dX1_actAutomatically_10 : decode cX1_actAutomatically 10 = .ok (.aload_n 0, 1) := by decide +kernel
theorem dX1_actAutomatically_11 : decode cX1_actAutomatically 11 = .ok (.getfield 22, 3) := by decide +kernel
theorem dX1_actAutomatically_14 : decode cX1_actAutomatically 14 = .ok (.getfield 72, 3) := by decide +kernel
theorem dX1_actAutomatically_17 : decode cX1_actAutomatically 17 = .ok (.lstore_n 1, 1) := by decide +kernel
theorem dX1_actAutomatically_18 : decode cX1_actAutomatically 18 = .ok (.aload_n 0, 1) := by decide +kernel
theorem dX1_actAutomatically_19 : decode cX1_actAutomatically 19 = .ok (.getfield 26, 3) := by decide +kernel
theorem dX1_actAutomatically_22 : decode cX1_actAutomatically 22 = .ok (.lload_n 1, 1) := by decide +kernel
theorem dX1_actAutomatically_23 : decode cX1_actAutomatically 23 = .ok (.invokevirtual 84, 3) := by decide +kernel
theorem dX1_actAutomatically_26 : decode cX1_actAutomatically 26 = .ok (.istore_n 3, 1) := by decide +kernel
theorem dX1_actAutomatically_27 : decode cX1_actAutomatically 27 = .ok (.aload_n 0, 1) := by decide +kernel
theorem dX1_actAutomatically_28 : decode cX1_actAutomatically 28 = .ok (.getfield 12, 3) := by decide +kernel
theorem dX1_actAutomatically_31 : decode cX1_actAutomatically 31 = .ok (.aload_n 0, 1) := by decide +kernel
theorem dX1_actAutomatically_32 : decode cX1_actAutomatically 32 = .ok (.getfield 26, 3) := by decide +kernel
theorem dX1_actAutomatically_35 : decode cX1_actAutomatically 35 = .ok (.iload_n 3, 1) := by decide +kernel
theorem dX1_actAutomatically_36 : decode cX1_actAutomatically 36 = .ok (.lload_n 1, 1) := by decide +kernel
theorem dX1_actAutomatically_37 : decode cX1_actAutomatically 37 = .ok (.invokevirtual 88, 3) := by decide +kernel
theorem dX1_actAutomatically_40 : decode cX1_actAutomatically 40 = .ok (.aload_n 0, 1) := by decide +kernel
theorem dX1_actAutomatically_41 : decode cX1_actAutomatically 41 = .ok (.getfield 26, 3) := by decide +kernel
theorem dX1_actAutomatically_44 : decode cX1_actAutomatically 44 = .ok (.iload_n 3, 1) := by decide +kernel
theorem dX1_actAutomatically_45 : decode cX1_actAutomatically 45 = .ok (.lload_n 1, 1) := by decide +kernel
theorem dX1_actAutomatically_46 : decode cX1_actAutomatically 46 = .ok (.invokevirtual 92, 3) := by decide +kernel
theorem dX1_actAutomatically_49 : decode cX1_actAutomatically 49 = .ok (.aload_n 0, 1) := by decide +kernel
theorem dX1_actAutomatically_50 : decode cX1_actAutomatically 50 = .ok (.getfield 26, 3) := by decide +kernel
theorem dX1_actAutomatically_53 : decode cX1_actAutomatically 53 = .ok (.iload_n 3, 1) := by decide +kernel
theorem dX1_actAutomatically_54 : decode cX1_actAutomatically 54 = .ok (.lload_n 1, 1) := by decide +kernel
theorem dX1_actAutomatically_55 : decode cX1_actAutomatically 55 = .ok (.invokevirtual 95, 3) := by decide +kernel
theorem dX1_actAutomatically_58 : decode cX1_actAutomatically 58 = .ok (.invokevirtual 98, 3) := by decide +kernel
theorem dX1_actAutomatically_61 : decode cX1_actAutomatically 61 = .ok (.aload_n 0, 1) := by decide +kernel
theorem dX1_actAutomatically_62 : decode cX1_actAutomatically 62 = .ok (.aload_n 0, 1) := by decide +kernel
theorem dX1_actAutomatically_63 : decode cX1_actAutomatically 63 = .ok (.getfield 12, 3) := by decide +kernel
theorem dX1_actAutomatically_66 : decode cX1_actAutomatically 66 = .ok (.invokevirtual 102, 3) := by decide +kernel
theorem dX1_actAutomatically_69 : decode cX1_actAutomatically 69 = .ok (.putfield 44, 3) := by decide +kernel
theorem dX1_actAutomatically_72 : decode cX1_actAutomatically 72 = .ok (.return_, 1) := by decide +kernel
theorem dX1_actAsRelay_0 : decode cX1_actAsRelay 0 = .ok (.aload_n 0, 1) := by decide +kernel
theorem dX1_actAsRelay_1 : decode cX1_actAsRelay 1 = .ok (.getfield 33, 3) := by decide +kernel
theorem dX1_actAsRelay_4 : decode cX1_actAsRelay 4 = .ok (.aload_n 0, 1) := by decide +kernel
theorem dX1_actAsRelay_5 : decode cX1_actAsRelay 5 = .ok (.getfield 12, 3) := by decide +kernel
theorem dX1_actAsRelay_8 : decode cX1_actAsRelay 8 = .ok (.invokevirtual 106, 3) := by decide +kernel
theorem dX1_actAsRelay_11 : decode cX1_actAsRelay 11 = .ok (.aload_n 0, 1) := by decide +kernel
theorem dX1_actAsRelay_12 : decode cX1_actAsRelay 12 = .ok (.getfield 22, 3) := by decide +kernel
theorem dX1_actAsRelay_15 : decode cX1_actAsRelay 15 = .ok (.getfield 72, 3) := by decide +kernel
theorem dX1_actAsRelay_18 : decode cX1_actAsRelay 18 = .ok (.invokevirtual 109, 3) := by decide +kernel
theorem dX1_actAsRelay_21 : decode cX1_actAsRelay 21 = .ok (.aload_n 0, 1) := by decide +kernel
theorem dX1_actAsRelay_22 : decode cX1_actAsRelay 22 = .ok (.aload_n 0, 1) := by decide +kernel
theorem dX1_actAsRelay_23 : decode cX1_actAsRelay 23 = .ok (.getfield 12, 3) := by decide +kernel
theorem dX1_actAsRelay_26 : decode cX1_actAsRelay 26 = .ok (.aload_n 0, 1) := by decide +kernel
theorem dX1_actAsRelay_27 : decode cX1_actAsRelay 27 = .ok (.getfield 33, 3) := by decide +kernel
theorem dX1_actAsRelay_30 : decode cX1_actAsRelay 30 = .ok (.invokevirtual 113, 3) := by decide +kernel
theorem dX1_actAsRelay_33 : decode cX1_actAsRelay 33 = .ok (.invokevirtual 65, 3) := by decide +kernel
theorem dX1_actAsRelay_36 : decode cX1_actAsRelay 36 = .ok (.putfield 44, 3) := by decide +kernel
theorem dX1_actAsRelay_39 : decode cX1_actAsRelay 39 = .ok (.aload_n 0, 1) := by decide +kernel
theorem dX1_actAsRelay_40 : decode cX1_actAsRelay 40 = .ok (.getfield 33, 3) := by decide +kernel
theorem dX1_actAsRelay_43 : decode cX1_actAsRelay 43 = .ok (.getfield 116, 3) := by decide +kernel
theorem dX1_actAsRelay_46 : decode cX1_actAsRelay 46 = .ok (.iconst 1, 1) := by decide +kernel
theorem dX1_actAsRelay_47 : decode cX1_actAsRelay 47 = .ok (.if_icmp .eq 22, 3) := by decide +kernel
theorem dX1_actAsRelay_50 : decode cX1_actAsRelay 50 = .ok (.aload_n 0, 1) := by decide +kernel
theorem dX1_actAsRelay_51 : decode cX1_actAsRelay 51 = .ok (.getfield 12, 3) := by decide +kernel
theorem dX1_actAsRelay_54 : decode cX1_actAsRelay 54 = .ok (.aload_n 0, 1) := by decide +kernel
theorem dX1_actAsRelay_55 : decode cX1_actAsRelay 55 = .ok (.getfield 33, 3) := by decide +kernel
theorem dX1_actAsRelay_58 : decode cX1_actAsRelay 58 = .ok (.getfield 119, 3) := by decide +kernel
theorem dX1_actAsRelay_61 : decode cX1_actAsRelay 61 = .ok (.invokevirtual 48, 3) := by decide +kernel
theorem dX1_actAsRelay_64 : decode cX1_actAsRelay 64 = .ok (.aload_n 0, 1) := by decide +kernel
theorem dX1_actAsRelay_65 : decode cX1_actAsRelay 65 = .ok (.iconst 1, 1) := by decide +kernel
theorem dX1_actAsRelay_66 : decode cX1_actAsRelay 66 = .ok (.putfield 37, 3) := by decide +kernel
theorem dX1_actAsRelay_69 : decode cX1_actAsRelay 69 = .ok (.return_, 1) := by decide +kernel
theorem dX2_init_0 : decode cX2_init 0 = .ok (.aload_n 0, 1) := by decide +kernel
theorem dX2_init_1 : decode cX2_init 1 = .ok (.invokespecial 3, 3) := by decide +kernel
theorem dX2_init_4 : decode cX2_init 4 = .ok (.aload_n 0, 1) := by decide +kernel
theorem dX2_init_5 : decode cX2_init 5 = .ok (.sipush 800, 3) := by decide +kernel
theorem dX2_init_8 : decode cX2_init 8 = .ok (.putfield 9, 3) := by decide +kernel
theorem dX2_init_11 : decode cX2_init 11 = .ok (.aload_n 0, 1) := by decide +kernel
theorem dX2_init_12 : decode cX2_init 12 = .ok (.sipush 200, 3) := by decide +kernel
theorem dX2_init_15 : decode cX2_init 15 = .ok (.putfield 15, 3) := by decide +kernel
theorem dX2_init_18 : decode cX2_init 18 = .ok (.aload_n 0, 1) := by decide +kernel
theorem dX2_init_19 : decode cX2_init 19 = .ok (.bipush 11, 2) := by decide +kernel
theorem dX2_init_21 : decode cX2_init 21 = .ok (.newarray .long, 2) := by decide +kernel
theorem dX2_init_23 : decode cX2_init 23 = .ok (.putfield 18, 3) := by decide +kernel
theorem dX2_init_26 : decode cX2_init 26 = .ok (.return_, 1) := by decide +kernel
theorem dX2_goOn_0 : decode cX2_goOn 0 = .ok (.aload_n 0, 1) := by decide +kernel
theorem dX2_goOn_1 : decode cX2_goOn 1 = .ok (.aload_n 0, 1) := by decide +kernel
theorem dX2_goOn_2 : decode cX2_goOn 2 = .ok (.getfield 22, 3) := by decide +kernel
theorem dX2_goOn_5 : decode cX2_goOn 5 = .ok (.iconst 1, 1) := by decide +kernel
theorem dX2_goOn_6 : decode cX2_goOn 6 = .ok (.iadd, 1) := by decide +kernel
theorem dX2_goOn_7 : decode cX2_goOn 7 = .ok (.bipush 11, 2) := by decide +kernel
theorem dX2_goOn_9 : decode cX2_goOn 9 = .ok (.invokestatic 25, 3) := by decide +kernel
theorem dX2_goOn_12 : decode cX2_goOn 12 = .ok (.putfield 22, 3) := by decide +kernel
theorem dX2_goOn_15 : decode cX2_goOn 15 = .ok (.aload_n 0, 1) := by decide +kernel
theorem dX2_goOn_16 : decode cX2_goOn 16 = .ok (.getfield 18, 3) := by decide +kernel
theorem dX2_goOn_19 : decode cX2_goOn 19 = .ok (.aload_n 0, 1) := by decide +kernel
theorem dX2_goOn_20 : decode cX2_goOn 20 = .ok (.getfield 22, 3) := by decide +kernel
theorem dX2_goOn_23 : decode cX2_goOn 23 = .ok (.lload_n 1, 1) := by decide +kernel
theorem dX2_goOn_24 : decode cX2_goOn 24 = .ok (.lastore, 1) := by decide +kernel
theorem dX2_goOn_25 : decode cX2_goOn 25 = .ok (.aload_n 0, 1) := by decide +kernel
theorem dX2_goOn_26 : decode cX2_goOn 26 = .ok (.getfield 18, 3) := by decide +kernel
theorem dX2_goOn_29 : decode cX2_goOn 29 = .ok (.aload_n 0, 1) := by decide +kernel
theorem dX2_goOn_30 : decode cX2_goOn 30 = .ok (.getfield 22, 3) := by decide +kernel
theorem dX2_goOn_33 : decode cX2_goOn 33 = .ok (.aload_n 0, 1) := by decide +kernel
theorem dX2_goOn_34 : decode cX2_goOn 34 = .ok (.getfield 31, 3) := by decide +kernel
theorem dX2_goOn_37 : decode cX2_goOn 37 = .ok (.isub, 1) := by decide +kernel
theorem dX2_goOn_38 : decode cX2_goOn 38 = .ok (.bipush 11, 2) := by decide +kernel
theorem dX2_goOn_40 : decode cX2_goOn 40 = .ok (.invokestatic 25, 3) := by decide +kernel
theorem dX2_goOn_43 : decode cX2_goOn 43 = .ok (.laload, 1) := by decide +kernel
theorem dX2_goOn_44 : decode cX2_goOn 44 = .ok (.lstore_n 3, 1) := by decide +kernel
theorem dX2_goOn_45 : decode cX2_goOn 45 = .ok (.aload_n 0, 1) := by decide +kernel
theorem dX2_goOn_46 : decode cX2_goOn 46 = .ok (.getfield 9, 3) := by decide +kernel
theorem dX2_goOn_49 : decode cX2_goOn 49 = .ok (.i2l, 1) := by decide +kernel
theorem dX2_goOn_50 : decode cX2_goOn 50 = .ok (.aload_n 0, 1) := by decide +kernel
theorem dX2_goOn_51 : decode cX2_goOn 51 = .ok (.getfield 34, 3) := by decide +kernel
theorem dX2_goOn_54 : decode cX2_goOn 54 = .ok (.lmul, 1) := by decide +kernel
theorem dX2_goOn_55 : decode cX2_goOn 55 = .ok (.aload_n 0, 1) := by decide +kernel
theorem dX2_goOn_56 : decode cX2_goOn 56 = .ok (.getfield 38, 3) := by decide +kernel
theorem dX2_goOn_59 : decode cX2_goOn 59 = .ok (.i2l, 1) := by decide +kernel
theorem dX2_goOn_60 : decode cX2_goOn 60 = .ok (.aload_n 0, 1) := by decide +kernel
theorem dX2_goOn_61 : decode cX2_goOn 61 = .ok (.getfield 41, 3) := by decide +kernel
theorem dX2_goOn_64 : decode cX2_goOn 64 = .ok (.lmul, 1) := by decide +kernel
theorem dX2_goOn_65 : decode cX2_goOn 65 = .ok (.ladd, 1) := by decide +kernel
theorem dX2_goOn_66 : decode cX2_goOn 66 = .ok (.aload_n 0, 1) := by decide +kernel
theorem dX2_goOn_67 : decode cX2_goOn 67 = .ok (.getfield 15, 3) := by decide +kernel
theorem dX2_goOn_70 : decode cX2_goOn 70 = .ok (.i2l, 1) := by decide +kernel
theorem dX2_goOn_71 : decode cX2_goOn 71 = .ok (.lload_n 3, 1) := by decide +kernel
theorem dX2_goOn_72 : decode cX2_goOn 72 = .ok (.lmul, 1) := by decide +kernel
theorem dX2_goOn_73 : decode cX2_goOn 73 = .ok (.ladd, 1) := by decide +kernel
theorem dX2_goOn_74 : decode cX2_goOn 74 = .ok (.ldc2_w 44, 3) := by decide +kernel
theorem dX2_goOn_77 : decode cX2_goOn 77 = .ok (.invokestatic 46, 3) := by decide +kernel
theorem dX2_goOn_80 : decode cX2_goOn 80 = .ok (.lstore 5, 2) := by decide +kernel
theorem dX2_goOn_82 : decode cX2_goOn 82 = .ok (.aload_n 0, 1) := by decide +kernel
theorem dX2_goOn_83 : decode cX2_goOn 83 = .ok (.aload_n 0, 1) := by decide +kernel
theorem dX2_goOn_84 : decode cX2_goOn 84 = .ok (.getfield 34, 3) := by decide +kernel
theorem dX2_goOn_87 : decode cX2_goOn 87 = .ok (.putfield 41, 3) := by decide +kernel
theorem dX2_goOn_90 : decode cX2_goOn 90 = .ok (.aload_n 0, 1) := by decide +kernel
theorem dX2_goOn_91 : decode cX2_goOn 91 = .ok (.lload 5, 2) := by decide +kernel
theorem dX2_goOn_93 : decode cX2_goOn 93 = .ok (.aload_n 0, 1) := by decide +kernel
theorem dX2_goOn_94 : decode cX2_goOn 94 = .ok (.getfield 50, 3) := by decide +kernel
theorem dX2_goOn_97 : decode cX2_goOn 97 = .ok (.i2l, 1) := by decide +kernel
theorem dX2_goOn_98 : decode cX2_goOn 98 = .ok (.ladd, 1) := by decide +kernel
theorem dX2_goOn_99 : decode cX2_goOn 99 = .ok (.ldc2_w 53, 3) := by decide +kernel
theorem dX2_goOn_102 : decode cX2_goOn 102 = .ok (.ldc2_w 55, 3) := by decide +kernel
theorem dX2_goOn_105 : decode cX2_goOn 105 = .ok (.invokestatic 57, 3) := by decide +kernel
theorem dX2_goOn_108 : decode cX2_goOn 108 = .ok (.putfield 34, 3) := by decide +kernel
theorem dX2_goOn_111 : decode cX2_goOn 111 = .ok (.return_, 1) := by decide +kernel
theorem dX3_init_0 : decode cX3_init 0 = .ok (.aload_n 0, 1) := by decide +kernel
theorem dX3_init_1 : decode cX3_init 1 = .ok (.invokespecial 1, 3) := by decide +kernel
theorem dX3_init_4 : decode cX3_init 4 = .ok (.return_, 1) := by decide +kernel
theorem dX3_begin_0 : decode cX3_begin 0 = .ok (.aload_n 0, 1) := by decide +kernel
theorem dX3_begin_1 : decode cX3_begin 1 = .ok (.iconst 1, 1) := by decide +kernel
theorem dX3_begin_2 : decode cX3_begin 2 = .ok (.putfield 9, 3) := by decide +kernel
theorem dX3_begin_5 : decode cX3_begin 5 = .ok (.aload_n 0, 1) := by decide +kernel
theorem dX3_begin_6 : decode cX3_begin 6 = .ok (.lload_n 1, 1) := by decide +kernel
theorem dX3_begin_7 : decode cX3_begin 7 = .ok (.putfield 13, 3) := by decide +kernel
theorem dX3_begin_10 : decode cX3_begin 10 = .ok (.aload_n 0, 1) := by decide +kernel
theorem dX3_begin_11 : decode cX3_begin 11 = .ok (.iload_n 3, 1) := by decide +kernel
theorem dX3_begin_12 : decode cX3_begin 12 = .ok (.putfield 17, 3) := by decide +kernel
theorem dX3_begin_15 : decode cX3_begin 15 = .ok (.aload_n 0, 1) := by decide +kernel
theorem dX3_begin_16 : decode cX3_begin 16 = .ok (.iload 4, 2) := by decide +kernel
theorem dX3_begin_18 : decode cX3_begin 18 = .ok (.putfield 20, 3) := by decide +kernel
theorem dX3_begin_21 : decode cX3_begin 21 = .ok (.aload_n 0, 1) := by decide +kernel
theorem dX3_begin_22 : decode cX3_begin 22 = .ok (.iconst 1, 1) := by decide +kernel
theorem dX3_begin_23 : decode cX3_begin 23 = .ok (.putfield 23, 3) := by decide +kernel
theorem dX3_begin_26 : decode cX3_begin 26 = .ok (.aload_n 0, 1) := by decide +kernel
theorem dX3_begin_27 : decode cX3_begin 27 = .ok (.iconst 0, 1) := by decide +kernel
theorem dX3_begin_28 : decode cX3_begin 28 = .ok (.putfield 27, 3) := by decide +kernel
theorem dX3_begin_31 : decode cX3_begin 31 = .ok (.aload_n 0, 1) := by decide +kernel
theorem dX3_begin_32 : decode cX3_begin 32 = .ok (.iconst 0, 1) := by decide +kernel
theorem dX3_begin_33 : decode cX3_begin 33 = .ok (.putfield 30, 3) := by decide +kernel
theorem dX3_begin_36 : decode cX3_begin 36 = .ok (.return_, 1) := by decide +kernel
theorem dX3_giveUp_0 : decode cX3_giveUp 0 = .ok (.aload_n 0, 1) := by decide +kernel
theorem dX3_giveUp_1 : decode cX3_giveUp 1 = .ok (.iconst 0, 1) := by decide +kernel
theorem dX3_giveUp_2 : decode cX3_giveUp 2 = .ok (.putfield 9, 3) := by decide +kernel
theorem dX3_giveUp_5 : decode cX3_giveUp 5 = .ok (.return_, 1) := by decide +kernel
theorem dX3_wanted_0 : decode cX3_wanted 0 = .ok (.aload_n 0, 1) := by decide +kernel
theorem dX3_wanted_1 : decode cX3_wanted 1 = .ok (.getfield 23, 3) := by decide +kernel
theorem dX3_wanted_4 : decode cX3_wanted 4 = .ok (.ifCond .eq 16, 3) := by decide +kernel
theorem dX3_wanted_7 : decode cX3_wanted 7 = .ok (.aload_n 0, 1) := by decide +kernel
theorem dX3_wanted_8 : decode cX3_wanted 8 = .ok (.getfield 13, 3) := by decide +kernel
theorem dX3_wanted_11 : decode cX3_wanted 11 = .ok (.aload_n 0, 1) := by decide +kernel
theorem dX3_wanted_12 : decode cX3_wanted 12 = .ok (.getfield 17, 3) := by decide +kernel
theorem dX3_wanted_15 : decode cX3_wanted 15 = .ok (.i2l, 1) := by decide +kernel
theorem dX3_wanted_16 : decode cX3_wanted 16 = .ok (.ladd, 1) := by decide +kernel
theorem dX3_wanted_17 : decode cX3_wanted 17 = .ok (.goto 13, 3) := by decide +kernel
theorem dX3_wanted_20 : decode cX3_wanted 20 = .ok (.aload_n 0, 1) := by decide +kernel
theorem dX3_wanted_21 : decode cX3_wanted 21 = .ok (.getfield 13, 3) := by decide +kernel
theorem dX3_wanted_24 : decode cX3_wanted 24 = .ok (.aload_n 0, 1) := by decide +kernel
theorem dX3_wanted_25 : decode cX3_wanted 25 = .ok (.getfield 17, 3) := by decide +kernel
theorem dX3_wanted_28 : decode cX3_wanted 28 = .ok (.i2l, 1) := by decide +kernel
theorem dX3_wanted_29 : decode cX3_wanted 29 = .ok (.lsub, 1) := by decide +kernel
theorem dX3_wanted_30 : decode cX3_wanted 30 = .ok (.lreturn, 1) := by decide +kernel
theorem dX3_sample_0 : decode cX3_sample 0 = .ok (.aload_n 0, 1) := by decide +kernel
theorem dX3_sample_1 : decode cX3_sample 1 = .ok (.dup, 1) := by decide +kernel
theorem dX3_sample_2 : decode cX3_sample 2 = .ok (.getfield 27, 3) := by decide +kernel
theorem dX3_sample_5 : decode cX3_sample 5 = .ok (.iconst 1, 1) := by decide +kernel
theorem dX3_sample_6 : decode cX3_sample 6 = .ok (.iadd, 1) := by decide +kernel
theorem dX3_sample_7 : decode cX3_sample 7 = .ok (.putfield 27, 3) := by decide +kernel
theorem dX3_sample_10 : decode cX3_sample 10 = .ok (.aload_n 0, 1) := by decide +kernel
theorem dX3_sample_11 : decode cX3_sample 11 = .ok (.getfield 23, 3) := by decide +kernel
theorem dX3_sample_14 : decode cX3_sample 14 = .ok (.istore 5, 2) := by decide +kernel
theorem dX3_sample_16 : decode cX3_sample 16 = .ok (.lload_n 1, 1) := by decide +kernel
theorem dX3_sample_17 : decode cX3_sample 17 = .ok (.aload_n 0, 1) := by decide +kernel
theorem dX3_sample_18 : decode cX3_sample 18 = .ok (.getfield 20, 3) := by decide +kernel
theorem dX3_sample_21 : decode cX3_sample 21 = .ok (.i2l, 1) := by decide +kernel
theorem dX3_sample_22 : decode cX3_sample 22 = .ok (.lcmp, 1) := by decide +kernel
theorem dX3_sample_23 : decode cX3_sample 23 = .ok (.ifCond .le 11, 3) := by decide +kernel
theorem dX3_sample_26 : decode cX3_sample 26 = .ok (.aload_n 0, 1) := by decide +kernel
theorem dX3_sample_27 : decode cX3_sample 27 = .ok (.iconst 1, 1) := by decide +kernel
theorem dX3_sample_28 : decode cX3_sample 28 = .ok (.putfield 23, 3) := by decide +kernel
theorem dX3_sample_31 : decode cX3_sample 31 = .ok (.goto 19, 3) := by decide +kernel
theorem dX3_sample_34 : decode cX3_sample 34 = .ok (.lload_n 1, 1) := by decide +kernel
theorem dX3_sample_35 : decode cX3_sample 35 = .ok (.aload_n 0, 1) := by decide +kernel
theorem dX3_sample_36 : decode cX3_sample 36 = .ok (.getfield 20, 3) := by decide +kernel
theorem dX3_sample_39 : decode cX3_sample 39 = .ok (.ineg, 1) := by decide +kernel
theorem dX3_sample_40 : decode cX3_sample 40 = .ok (.i2l, 1) := by decide +kernel
theorem dX3_sample_41 : decode cX3_sample 41 = .ok (.lcmp, 1) := by decide +kernel
theorem dX3_sample_42 : decode cX3_sample 42 = .ok (.ifCond .ge 8, 3) := by decide +kernel
theorem dX3_sample_45 : decode cX3_sample 45 = .ok (.aload_n 0, 1) := by decide +kernel
theorem dX3_sample_46 : decode cX3_sample 46 = .ok (.iconst 0, 1) := by decide +kernel
theorem dX3_sample_47 : decode cX3_sample 47 = .ok (.putfield 23, 3) := by decide +kernel
theorem dX3_sample_50 : decode cX3_sample 50 = .ok (.aload_n 0, 1) := by decide +kernel
theorem dX3_sample_51 : decode cX3_sample 51 = .ok (.getfield 23, 3) := by decide +kernel
theorem dX3_sample_54 : decode cX3_sample 54 = .ok (.ifCond .eq 16, 3) := by decide +kernel
theorem dX3_sample_57 : decode cX3_sample 57 = .ok (.iload 5, 2) := by decide +kernel
theorem dX3_sample_59 : decode cX3_sample 59 = .ok (.ifCond .ne 11, 3) := by decide +kernel
theorem dX3_sample_62 : decode cX3_sample 62 = .ok (.aload_n 0, 1) := by decide +kernel
theorem dX3_sample_63 : decode cX3_sample 63 = .ok (.lload_n 3, 1) := by decide +kernel
theorem dX3_sample_64 : decode cX3_sample 64 = .ok (.invokevirtual 33, 3) := by decide +kernel
theorem dX3_sample_67 : decode cX3_sample 67 = .ok (.goto 27, 3) := by decide +kernel
theorem dX3_sample_70 : decode cX3_sample 70 = .ok (.aload_n 0, 1) := by decide +kernel
theorem dX3_sample_71 : decode cX3_sample 71 = .ok (.aload_n 0, 1) := by decide +kernel
theorem dX3_sample_72 : decode cX3_sample 72 = .ok (.getfield 37, 3) := by decide +kernel
theorem dX3_sample_75 : decode cX3_sample 75 = .ok (.lload_n 3, 1) := by decide +kernel
theorem dX3_sample_76 : decode cX3_sample 76 = .ok (.invokestatic 40, 3) := by decide +kernel
theorem dX3_sample_79 : decode cX3_sample 79 = .ok (.putfield 37, 3) := by decide +kernel
theorem dX3_sample_82 : decode cX3_sample 82 = .ok (.aload_n 0, 1) := by decide +kernel
theorem dX3_sample_83 : decode cX3_sample 83 = .ok (.aload_n 0, 1) := by decide +kernel
theorem dX3_sample_84 : decode cX3_sample 84 = .ok (.getfield 46, 3) := by decide +kernel
theorem dX3_sample_87 : decode cX3_sample 87 = .ok (.lload_n 3, 1) := by decide +kernel
theorem dX3_sample_88 : decode cX3_sample 88 = .ok (.invokestatic 49, 3) := by decide +kernel
theorem dX3_sample_91 : decode cX3_sample 91 = .ok (.putfield 46, 3) := by decide +kernel
theorem dX3_sample_94 : decode cX3_sample 94 = .ok (.aload_n 0, 1) := by decide +kernel
theorem dX3_sample_95 : decode cX3_sample 95 = .ok (.getfield 9, 3) := by decide +kernel
theorem dX3_sample_98 : decode cX3_sample 98 = .ok (.iconst 1, 1) := by decide +kernel
theorem dX3_sample_99 : decode cX3_sample 99 = .ok (.if_icmp .ne 18, 3) := by decide +kernel
theorem dX3_sample_102 : decode cX3_sample 102 = .ok (.aload_n 0, 1) := by decide +kernel
theorem dX3_sample_103 : decode cX3_sample 103 = .ok (.getfield 27, 3) := by decide +kernel
theorem dX3_sample_106 : decode cX3_sample 106 = .ok (.sipush 400, 3) := by decide +kernel
theorem dX3_sample_109 : decode cX3_sample 109 = .ok (.if_icmp .lt 8, 3) := by decide +kernel
theorem dX3_sample_112 : decode cX3_sample 112 = .ok (.aload_n 0, 1) := by decide +kernel
theorem dX3_sample_113 : decode cX3_sample 113 = .ok (.iconst 3, 1) := by decide +kernel
theorem dX3_sample_114 : decode cX3_sample 114 = .ok (.putfield 9, 3) := by decide +kernel
theorem dX3_sample_117 : decode cX3_sample 117 = .ok (.return_, 1) := by decide +kernel
theorem dX3_noteRise_0 : decode cX3_noteRise 0 = .ok (.aload_n 0, 1) := by decide +kernel
theorem dX3_noteRise_1 : decode cX3_noteRise 1 = .ok (.dup, 1) := by decide +kernel
theorem dX3_noteRise_2 : decode cX3_noteRise 2 = .ok (.getfield 30, 3) := by decide +kernel
theorem dX3_noteRise_5 : decode cX3_noteRise 5 = .ok (.iconst 1, 1) := by decide +kernel
theorem dX3_noteRise_6 : decode cX3_noteRise 6 = .ok (.iadd, 1) := by decide +kernel
theorem dX3_noteRise_7 : decode cX3_noteRise 7 = .ok (.putfield 30, 3) := by decide +kernel
theorem dX3_noteRise_10 : decode cX3_noteRise 10 = .ok (.aload_n 0, 1) := by decide +kernel
theorem dX3_noteRise_11 : decode cX3_noteRise 11 = .ok (.getfield 30, 3) := by decide +kernel
theorem dX3_noteRise_14 : decode cX3_noteRise 14 = .ok (.iconst 2, 1) := by decide +kernel
theorem dX3_noteRise_15 : decode cX3_noteRise 15 = .ok (.if_icmp .ne 11, 3) := by decide +kernel
theorem dX3_noteRise_18 : decode cX3_noteRise 18 = .ok (.aload_n 0, 1) := by decide +kernel
theorem dX3_noteRise_19 : decode cX3_noteRise 19 = .ok (.aload_n 0, 1) := by decide +kernel
theorem dX3_noteRise_20 : decode cX3_noteRise 20 = .ok (.getfield 27, 3) := by decide +kernel
theorem dX3_noteRise_23 : decode cX3_noteRise 23 = .ok (.putfield 52, 3) := by decide +kernel
theorem dX3_noteRise_26 : decode cX3_noteRise 26 = .ok (.aload_n 0, 1) := by decide +kernel
theorem dX3_noteRise_27 : decode cX3_noteRise 27 = .ok (.getfield 30, 3) := by decide +kernel
theorem dX3_noteRise_30 : decode cX3_noteRise 30 = .ok (.iconst 4, 1) := by decide +kernel
theorem dX3_noteRise_31 : decode cX3_noteRise 31 = .ok (.if_icmp .lt 36, 3) := by decide +kernel
theorem dX3_noteRise_34 : decode cX3_noteRise 34 = .ok (.aload_n 0, 1) := by decide +kernel
theorem dX3_noteRise_35 : decode cX3_noteRise 35 = .ok (.aload_n 0, 1) := by decide +kernel
theorem dX3_noteRise_36 : decode cX3_noteRise 36 = .ok (.getfield 27, 3) := by decide +kernel
theorem dX3_noteRise_39 : decode cX3_noteRise 39 = .ok (.aload_n 0, 1) := by decide +kernel
theorem dX3_noteRise_40 : decode cX3_noteRise 40 = .ok (.getfield 52, 3) := by decide +kernel
theorem dX3_noteRise_43 : decode cX3_noteRise 43 = .ok (.isub, 1) := by decide +kernel
theorem dX3_noteRise_44 : decode cX3_noteRise 44 = .ok (.iconst 2, 1) := by decide +kernel
theorem dX3_noteRise_45 : decode cX3_noteRise 45 = .ok (.idiv, 1) := by decide +kernel
theorem dX3_noteRise_46 : decode cX3_noteRise 46 = .ok (.putfield 55, 3) := by decide +kernel
theorem dX3_noteRise_49 : decode cX3_noteRise 49 = .ok (.aload_n 0, 1) := by decide +kernel
theorem dX3_noteRise_50 : decode cX3_noteRise 50 = .ok (.aload_n 0, 1) := by decide +kernel
theorem dX3_noteRise_51 : decode cX3_noteRise 51 = .ok (.getfield 37, 3) := by decide +kernel
theorem dX3_noteRise_54 : decode cX3_noteRise 54 = .ok (.aload_n 0, 1) := by decide +kernel
theorem dX3_noteRise_55 : decode cX3_noteRise 55 = .ok (.getfield 46, 3) := by decide +kernel
theorem dX3_noteRise_58 : decode cX3_noteRise 58 = .ok (.lsub, 1) := by decide +kernel
theorem dX3_noteRise_59 : decode cX3_noteRise 59 = .ok (.putfield 58, 3) := by decide +kernel
theorem dX3_noteRise_62 : decode cX3_noteRise 62 = .ok (.aload_n 0, 1) := by decide +kernel
theorem dX3_noteRise_63 : decode cX3_noteRise 63 = .ok (.iconst 2, 1) := by decide +kernel
theorem dX3_noteRise_64 : decode cX3_noteRise 64 = .ok (.putfield 9, 3) := by decide +kernel
theorem dX3_noteRise_67 : decode cX3_noteRise 67 = .ok (.aload_n 0, 1) := by decide +kernel
theorem dX3_noteRise_68 : decode cX3_noteRise 68 = .ok (.lload_n 1, 1) := by decide +kernel
theorem dX3_noteRise_69 : decode cX3_noteRise 69 = .ok (.putfield 37, 3) := by decide +kernel
theorem dX3_noteRise_72 : decode cX3_noteRise 72 = .ok (.aload_n 0, 1) := by decide +kernel
theorem dX3_noteRise_73 : decode cX3_noteRise 73 = .ok (.lload_n 1, 1) := by decide +kernel
theorem dX3_noteRise_74 : decode cX3_noteRise 74 = .ok (.putfield 46, 3) := by decide +kernel
theorem dX3_noteRise_77 : decode cX3_noteRise 77 = .ok (.return_, 1) := by decide +kernel
theorem dX3_gainAtTheEdge_0 : decode cX3_gainAtTheEdge 0 = .ok (.aload_n 0, 1) := by decide +kernel
theorem dX3_gainAtTheEdge_1 : decode cX3_gainAtTheEdge 1 = .ok (.getfield 58, 3) := by decide +kernel
theorem dX3_gainAtTheEdge_4 : decode cX3_gainAtTheEdge 4 = .ok (.lconst 0, 1) := by decide +kernel
theorem dX3_gainAtTheEdge_5 : decode cX3_gainAtTheEdge 5 = .ok (.lcmp, 1) := by decide +kernel
theorem dX3_gainAtTheEdge_6 : decode cX3_gainAtTheEdge 6 = .ok (.ifCond .le 26, 3) := by decide +kernel
theorem dX3_gainAtTheEdge_9 : decode cX3_gainAtTheEdge 9 = .ok (.ldc2_w 61, 3) := by decide +kernel
theorem dX3_gainAtTheEdge_12 : decode cX3_gainAtTheEdge 12 = .ok (.aload_n 0, 1) := by decide +kernel
theorem dX3_gainAtTheEdge_13 : decode cX3_gainAtTheEdge 13 = .ok (.getfield 17, 3) := by decide +kernel
theorem dX3_gainAtTheEdge_16 : decode cX3_gainAtTheEdge 16 = .ok (.i2l, 1) := by decide +kernel
theorem dX3_gainAtTheEdge_17 : decode cX3_gainAtTheEdge 17 = .ok (.lmul, 1) := by decide +kernel
theorem dX3_gainAtTheEdge_18 : decode cX3_gainAtTheEdge 18 = .ok (.ldc2_w 63, 3) := by decide +kernel
theorem dX3_gainAtTheEdge_21 : decode cX3_gainAtTheEdge 21 = .ok (.aload_n 0, 1) := by decide +kernel
theorem dX3_gainAtTheEdge_22 : decode cX3_gainAtTheEdge 22 = .ok (.getfield 58, 3) := by decide +kernel
theorem dX3_gainAtTheEdge_25 : decode cX3_gainAtTheEdge 25 = .ok (.lmul, 1) := by decide +kernel
theorem dX3_gainAtTheEdge_26 : decode cX3_gainAtTheEdge 26 = .ok (.invokestatic 65, 3) := by decide +kernel
theorem dX3_gainAtTheEdge_29 : decode cX3_gainAtTheEdge 29 = .ok (.goto 4, 3) := by decide +kernel
theorem dX3_gainAtTheEdge_32 : decode cX3_gainAtTheEdge 32 = .ok (.lconst 0, 1) := by decide +kernel
theorem dX3_gainAtTheEdge_33 : decode cX3_gainAtTheEdge 33 = .ok (.lreturn, 1) := by decide +kernel
theorem dX3_proposedP_0 : decode cX3_proposedP 0 = .ok (.aload_n 0, 1) := by decide +kernel
theorem dX3_proposedP_1 : decode cX3_proposedP 1 = .ok (.invokevirtual 68, 3) := by decide +kernel
theorem dX3_proposedP_4 : decode cX3_proposedP 4 = .ok (.lstore_n 2, 1) := by decide +kernel
theorem dX3_proposedP_5 : decode cX3_proposedP 5 = .ok (.iload_n 1, 1) := by decide +kernel
theorem dX3_proposedP_6 : decode cX3_proposedP 6 = .ok (.ifCond .ne 15, 3) := by decide +kernel
theorem dX3_proposedP_9 : decode cX3_proposedP 9 = .ok (.ldc2_w 72, 3) := by decide +kernel
theorem dX3_proposedP_12 : decode cX3_proposedP 12 = .ok (.lload_n 2, 1) := by decide +kernel
theorem dX3_proposedP_13 : decode cX3_proposedP 13 = .ok (.lmul, 1) := by decide +kernel
theorem dX3_proposedP_14 : decode cX3_proposedP 14 = .ok (.ldc2_w 74, 3) := by decide +kernel
theorem dX3_proposedP_17 : decode cX3_proposedP 17 = .ok (.ldiv, 1) := by decide +kernel
theorem dX3_proposedP_18 : decode cX3_proposedP 18 = .ok (.goto 12, 3) := by decide +kernel
theorem dX3_proposedP_21 : decode cX3_proposedP 21 = .ok (.ldc2_w 74, 3) := by decide +kernel
theorem dX3_proposedP_24 : decode cX3_proposedP 24 = .ok (.lload_n 2, 1) := by decide +kernel
theorem dX3_proposedP_25 : decode cX3_proposedP 25 = .ok (.lmul, 1) := by decide +kernel
theorem dX3_proposedP_26 : decode cX3_proposedP 26 = .ok (.ldc2_w 76, 3) := by decide +kernel
theorem dX3_proposedP_29 : decode cX3_proposedP 29 = .ok (.ldiv, 1) := by decide +kernel
theorem dX3_proposedP_30 : decode cX3_proposedP 30 = .ok (.lreturn, 1) := by decide +kernel
theorem dX3_proposedI_0 : decode cX3_proposedI 0 = .ok (.aload_n 0, 1) := by decide +kernel
theorem dX3_proposedI_1 : decode cX3_proposedI 1 = .ok (.invokevirtual 68, 3) := by decide +kernel
theorem dX3_proposedI_4 : decode cX3_proposedI 4 = .ok (.lstore_n 2, 1) := by decide +kernel
theorem dX3_proposedI_5 : decode cX3_proposedI 5 = .ok (.aload_n 0, 1) := by decide +kernel
theorem dX3_proposedI_6 : decode cX3_proposedI 6 = .ok (.getfield 55, 3) := by decide +kernel
theorem dX3_proposedI_9 : decode cX3_proposedI 9 = .ok (.ifCond .gt 5, 3) := by decide +kernel
theorem dX3_proposedI_12 : decode cX3_proposedI 12 = .ok (.lconst 0, 1) := by decide +kernel
theorem dX3_proposedI_13 : decode cX3_proposedI 13 = .ok (.lreturn, 1) := by decide +kernel
theorem dX3_proposedI_14 : decode cX3_proposedI 14 = .ok (.iload_n 1, 1) := by decide +kernel
theorem dX3_proposedI_15 : decode cX3_proposedI 15 = .ok (.ifCond .ne 21, 3) := by decide +kernel
theorem dX3_proposedI_18 : decode cX3_proposedI 18 = .ok (.ldc2_w 78, 3) := by decide +kernel
theorem dX3_proposedI_21 : decode cX3_proposedI 21 = .ok (.lload_n 2, 1) := by decide +kernel
theorem dX3_proposedI_22 : decode cX3_proposedI 22 = .ok (.lmul, 1) := by decide +kernel
theorem dX3_proposedI_23 : decode cX3_proposedI 23 = .ok (.ldc2_w 74, 3) := by decide +kernel
theorem dX3_proposedI_26 : decode cX3_proposedI 26 = .ok (.aload_n 0, 1) := by decide +kernel
theorem dX3_proposedI_27 : decode cX3_proposedI 27 = .ok (.getfield 55, 3) := by decide +kernel
theorem dX3_proposedI_30 : decode cX3_proposedI 30 = .ok (.i2l, 1) := by decide +kernel
theorem dX3_proposedI_31 : decode cX3_proposedI 31 = .ok (.lmul, 1) := by decide +kernel
theorem dX3_proposedI_32 : decode cX3_proposedI 32 = .ok (.ldiv, 1) := by decide +kernel
theorem dX3_proposedI_33 : decode cX3_proposedI 33 = .ok (.goto 18, 3) := by decide +kernel
theorem dX3_proposedI_36 : decode cX3_proposedI 36 = .ok (.ldc2_w 80, 3) := by decide +kernel
theorem dX3_proposedI_39 : decode cX3_proposedI 39 = .ok (.lload_n 2, 1) := by decide +kernel
theorem dX3_proposedI_40 : decode cX3_proposedI 40 = .ok (.lmul, 1) := by decide +kernel
theorem dX3_proposedI_41 : decode cX3_proposedI 41 = .ok (.ldc2_w 82, 3) := by decide +kernel
theorem dX3_proposedI_44 : decode cX3_proposedI 44 = .ok (.aload_n 0, 1) := by decide +kernel
theorem dX3_proposedI_45 : decode cX3_proposedI 45 = .ok (.getfield 55, 3) := by decide +kernel
theorem dX3_proposedI_48 : decode cX3_proposedI 48 = .ok (.i2l, 1) := by decide +kernel
theorem dX3_proposedI_49 : decode cX3_proposedI 49 = .ok (.lmul, 1) := by decide +kernel
theorem dX3_proposedI_50 : decode cX3_proposedI 50 = .ok (.ldiv, 1) := by decide +kernel
theorem dX3_proposedI_51 : decode cX3_proposedI 51 = .ok (.lreturn, 1) := by decide +kernel
theorem dX3_proposedD_0 : decode cX3_proposedD 0 = .ok (.aload_n 0, 1) := by decide +kernel
theorem dX3_proposedD_1 : decode cX3_proposedD 1 = .ok (.invokevirtual 68, 3) := by decide +kernel
theorem dX3_proposedD_4 : decode cX3_proposedD 4 = .ok (.lstore_n 2, 1) := by decide +kernel
theorem dX3_proposedD_5 : decode cX3_proposedD 5 = .ok (.iload_n 1, 1) := by decide +kernel
theorem dX3_proposedD_6 : decode cX3_proposedD 6 = .ok (.ifCond .ne 21, 3) := by decide +kernel
theorem dX3_proposedD_9 : decode cX3_proposedD 9 = .ok (.ldc2_w 84, 3) := by decide +kernel
theorem dX3_proposedD_12 : decode cX3_proposedD 12 = .ok (.lload_n 2, 1) := by decide +kernel
theorem dX3_proposedD_13 : decode cX3_proposedD 13 = .ok (.lmul, 1) := by decide +kernel
theorem dX3_proposedD_14 : decode cX3_proposedD 14 = .ok (.aload_n 0, 1) := by decide +kernel
theorem dX3_proposedD_15 : decode cX3_proposedD 15 = .ok (.getfield 55, 3) := by decide +kernel
theorem dX3_proposedD_18 : decode cX3_proposedD 18 = .ok (.i2l, 1) := by decide +kernel
theorem dX3_proposedD_19 : decode cX3_proposedD 19 = .ok (.lmul, 1) := by decide +kernel
theorem dX3_proposedD_20 : decode cX3_proposedD 20 = .ok (.ldc2_w 86, 3) := by decide +kernel
theorem dX3_proposedD_23 : decode cX3_proposedD 23 = .ok (.ldiv, 1) := by decide +kernel
theorem dX3_proposedD_24 : decode cX3_proposedD 24 = .ok (.goto 18, 3) := by decide +kernel
theorem dX3_proposedD_27 : decode cX3_proposedD 27 = .ok (.ldc2_w 80, 3) := by decide +kernel
theorem dX3_proposedD_30 : decode cX3_proposedD 30 = .ok (.lload_n 2, 1) := by decide +kernel
theorem dX3_proposedD_31 : decode cX3_proposedD 31 = .ok (.lmul, 1) := by decide +kernel
theorem dX3_proposedD_32 : decode cX3_proposedD 32 = .ok (.aload_n 0, 1) := by decide +kernel
theorem dX3_proposedD_33 : decode cX3_proposedD 33 = .ok (.getfield 55, 3) := by decide +kernel
theorem dX3_proposedD_36 : decode cX3_proposedD 36 = .ok (.i2l, 1) := by decide +kernel
theorem dX3_proposedD_37 : decode cX3_proposedD 37 = .ok (.lmul, 1) := by decide +kernel
theorem dX3_proposedD_38 : decode cX3_proposedD 38 = .ok (.ldc2_w 88, 3) := by decide +kernel
theorem dX3_proposedD_41 : decode cX3_proposedD 41 = .ok (.ldiv, 1) := by decide +kernel
theorem dX3_proposedD_42 : decode cX3_proposedD 42 = .ok (.lreturn, 1) := by decide +kernel
theorem dX4_init_0 : decode cX4_init 0 = .ok (.aload_n 0, 1) := by decide +kernel
theorem dX4_init_1 : decode cX4_init 1 = .ok (.invokespecial 1, 3) := by decide +kernel
theorem dX4_init_4 : decode cX4_init 4 = .ok (.aload_n 0, 1) := by decide +kernel
theorem dX4_init_5 : decode cX4_init 5 = .ok (.iconst 5, 1) := by decide +kernel
theorem dX4_init_6 : decode cX4_init 6 = .ok (.newarray .int, 2) := by decide +kernel
theorem dX4_init_8 : decode cX4_init 8 = .ok (.putfield 9, 3) := by decide +kernel
theorem dX4_init_11 : decode cX4_init 11 = .ok (.aload_n 0, 1) := by decide +kernel
theorem dX4_init_12 : decode cX4_init 12 = .ok (.iconst 5, 1) := by decide +kernel
theorem dX4_init_13 : decode cX4_init 13 = .ok (.newarray .int, 2) := by decide +kernel
theorem dX4_init_15 : decode cX4_init 15 = .ok (.putfield 13, 3) := by decide +kernel
theorem dX4_init_18 : decode cX4_init 18 = .ok (.aload_n 0, 1) := by decide +kernel
theorem dX4_init_19 : decode cX4_init 19 = .ok (.iconst 5, 1) := by decide +kernel
theorem dX4_init_20 : decode cX4_init 20 = .ok (.newarray .int, 2) := by decide +kernel
theorem dX4_init_22 : decode cX4_init 22 = .ok (.putfield 16, 3) := by decide +kernel
theorem dX4_init_25 : decode cX4_init 25 = .ok (.aload_n 0, 1) := by decide +kernel
theorem dX4_init_26 : decode cX4_init 26 = .ok (.iconst 5, 1) := by decide +kernel
theorem dX4_init_27 : decode cX4_init 27 = .ok (.newarray .int, 2) := by decide +kernel
theorem dX4_init_29 : decode cX4_init 29 = .ok (.putfield 19, 3) := by decide +kernel
theorem dX4_init_32 : decode cX4_init 32 = .ok (.return_, 1) := by decide +kernel
theorem dX4_hasPoints_0 : decode cX4_hasPoints 0 = .ok (.aload_n 0, 1) := by decide +kernel
theorem dX4_hasPoints_1 : decode cX4_hasPoints 1 = .ok (.getfield 22, 3) := by decide +kernel
theorem dX4_hasPoints_4 : decode cX4_hasPoints 4 = .ok (.ifCond .le 7, 3) := by decide +kernel
theorem dX4_hasPoints_7 : decode cX4_hasPoints 7 = .ok (.iconst 1, 1) := by decide +kernel
theorem dX4_hasPoints_8 : decode cX4_hasPoints 8 = .ok (.goto 4, 3) := by decide +kernel
theorem dX4_hasPoints_11 : decode cX4_hasPoints 11 = .ok (.iconst 0, 1) := by decide +kernel
theorem dX4_hasPoints_12 : decode cX4_hasPoints 12 = .ok (.ireturn, 1) := by decide +kernel
theorem dX4_isFull_0 : decode cX4_isFull 0 = .ok (.aload_n 0, 1) := by decide +kernel
theorem dX4_isFull_1 : decode cX4_isFull 1 = .ok (.getfield 22, 3) := by decide +kernel
theorem dX4_isFull_4 : decode cX4_isFull 4 = .ok (.iconst 5, 1) := by decide +kernel
theorem dX4_isFull_5 : decode cX4_isFull 5 = .ok (.if_icmp .lt 7, 3) := by decide +kernel
theorem dX4_isFull_8 : decode cX4_isFull 8 = .ok (.iconst 1, 1) := by decide +kernel
theorem dX4_isFull_9 : decode cX4_isFull 9 = .ok (.goto 4, 3) := by decide +kernel
theorem dX4_isFull_12 : decode cX4_isFull 12 = .ok (.iconst 0, 1) := by decide +kernel
theorem dX4_isFull_13 : decode cX4_isFull 13 = .ok (.ireturn, 1) := by decide +kernel
theorem dX4_endsBelow_0 : decode cX4_endsBelow 0 = .ok (.aload_n 0, 1) := by decide +kernel
theorem dX4_endsBelow_1 : decode cX4_endsBelow 1 = .ok (.getfield 22, 3) := by decide +kernel
theorem dX4_endsBelow_4 : decode cX4_endsBelow 4 = .ok (.ifCond .le 26, 3) := by decide +kernel
theorem dX4_endsBelow_7 : decode cX4_endsBelow 7 = .ok (.aload_n 0, 1) := by decide +kernel
theorem dX4_endsBelow_8 : decode cX4_endsBelow 8 = .ok (.getfield 22, 3) := by decide +kernel
theorem dX4_endsBelow_11 : decode cX4_endsBelow 11 = .ok (.iconst 5, 1) := by decide +kernel
theorem dX4_endsBelow_12 : decode cX4_endsBelow 12 = .ok (.if_icmp .gt 18, 3) := by decide +kernel
theorem dX4_endsBelow_15 : decode cX4_endsBelow 15 = .ok (.aload_n 0, 1) := by decide +kernel
theorem dX4_endsBelow_16 : decode cX4_endsBelow 16 = .ok (.getfield 9, 3) := by decide +kernel
theorem dX4_endsBelow_19 : decode cX4_endsBelow 19 = .ok (.aload_n 0, 1) := by decide +kernel
theorem dX4_endsBelow_20 : decode cX4_endsBelow 20 = .ok (.getfield 22, 3) := by decide +kernel
theorem dX4_endsBelow_23 : decode cX4_endsBelow 23 = .ok (.iconst 1, 1) := by decide +kernel
theorem dX4_endsBelow_24 : decode cX4_endsBelow 24 = .ok (.isub, 1) := by decide +kernel
theorem dX4_endsBelow_25 : decode cX4_endsBelow 25 = .ok (.iaload, 1) := by decide +kernel
theorem dX4_endsBelow_26 : decode cX4_endsBelow 26 = .ok (.iload_n 1, 1) := by decide +kernel
theorem dX4_endsBelow_27 : decode cX4_endsBelow 27 = .ok (.if_icmp .ge 7, 3) := by decide +kernel
theorem dX4_endsBelow_30 : decode cX4_endsBelow 30 = .ok (.iconst 1, 1) := by decide +kernel
theorem dX4_endsBelow_31 : decode cX4_endsBelow 31 = .ok (.goto 4, 3) := by decide +kernel
theorem dX4_endsBelow_34 : decode cX4_endsBelow 34 = .ok (.iconst 0, 1) := by decide +kernel
theorem dX4_endsBelow_35 : decode cX4_endsBelow 35 = .ok (.ireturn, 1) := by decide +kernel
theorem dX4_addLast_0 : decode cX4_addLast 0 = .ok (.aload_n 0, 1) := by decide +kernel
theorem dX4_addLast_1 : decode cX4_addLast 1 = .ok (.getfield 22, 3) := by decide +kernel
theorem dX4_addLast_4 : decode cX4_addLast 4 = .ok (.ifCond .lt 62, 3) := by decide +kernel
theorem dX4_addLast_7 : decode cX4_addLast 7 = .ok (.aload_n 0, 1) := by decide +kernel
theorem dX4_addLast_8 : decode cX4_addLast 8 = .ok (.getfield 22, 3) := by decide +kernel
theorem dX4_addLast_11 : decode cX4_addLast 11 = .ok (.iconst 5, 1) := by decide +kernel
theorem dX4_addLast_12 : decode cX4_addLast 12 = .ok (.if_icmp .ge 54, 3) := by decide +kernel
theorem dX4_addLast_15 : decode cX4_addLast 15 = .ok (.aload_n 0, 1) := by decide +kernel
theorem dX4_addLast_16 : decode cX4_addLast 16 = .ok (.getfield 9, 3) := by decide +kernel
theorem dX4_addLast_19 : decode cX4_addLast 19 = .ok (.aload_n 0, 1) := by decide +kernel
theorem dX4_addLast_20 : decode cX4_addLast 20 = .ok (.getfield 22, 3) := by decide +kernel
theorem dX4_addLast_23 : decode cX4_addLast 23 = .ok (.iload_n 1, 1) := by decide +kernel
theorem dX4_addLast_24 : decode cX4_addLast 24 = .ok (.iastore, 1) := by decide +kernel
theorem dX4_addLast_25 : decode cX4_addLast 25 = .ok (.aload_n 0, 1) := by decide +kernel
theorem dX4_addLast_26 : decode cX4_addLast 26 = .ok (.getfield 13, 3) := by decide +kernel
theorem dX4_addLast_29 : decode cX4_addLast 29 = .ok (.aload_n 0, 1) := by decide +kernel
theorem dX4_addLast_30 : decode cX4_addLast 30 = .ok (.getfield 22, 3) := by decide +kernel
theorem dX4_addLast_33 : decode cX4_addLast 33 = .ok (.iload_n 2, 1) := by decide +kernel
theorem dX4_addLast_34 : decode cX4_addLast 34 = .ok (.iastore, 1) := by decide +kernel
theorem dX4_addLast_35 : decode cX4_addLast 35 = .ok (.aload_n 0, 1) := by decide +kernel
theorem dX4_addLast_36 : decode cX4_addLast 36 = .ok (.getfield 16, 3) := by decide +kernel
theorem dX4_addLast_39 : decode cX4_addLast 39 = .ok (.aload_n 0, 1) := by decide +kernel
theorem dX4_addLast_40 : decode cX4_addLast 40 = .ok (.getfield 22, 3) := by decide +kernel
theorem dX4_addLast_43 : decode cX4_addLast 43 = .ok (.iload_n 3, 1) := by decide +kernel
theorem dX4_addLast_44 : decode cX4_addLast 44 = .ok (.iastore, 1) := by decide +kernel
theorem dX4_addLast_45 : decode cX4_addLast 45 = .ok (.aload_n 0, 1) := by decide +kernel
theorem dX4_addLast_46 : decode cX4_addLast 46 = .ok (.getfield 19, 3) := by decide +kernel
theorem dX4_addLast_49 : decode cX4_addLast 49 = .ok (.aload_n 0, 1) := by decide +kernel
theorem dX4_addLast_50 : decode cX4_addLast 50 = .ok (.getfield 22, 3) := by decide +kernel
theorem dX4_addLast_53 : decode cX4_addLast 53 = .ok (.iload 4, 2) := by decide +kernel
theorem dX4_addLast_55 : decode cX4_addLast 55 = .ok (.iastore, 1) := by decide +kernel
theorem dX4_addLast_56 : decode cX4_addLast 56 = .ok (.aload_n 0, 1) := by decide +kernel
theorem dX4_addLast_57 : decode cX4_addLast 57 = .ok (.dup, 1) := by decide +kernel
theorem dX4_addLast_58 : decode cX4_addLast 58 = .ok (.getfield 22, 3) := by decide +kernel
theorem dX4_addLast_61 : decode cX4_addLast 61 = .ok (.iconst 1, 1) := by decide +kernel
theorem dX4_addLast_62 : decode cX4_addLast 62 = .ok (.iadd, 1) := by decide +kernel
theorem dX4_addLast_63 : decode cX4_addLast 63 = .ok (.putfield 22, 3) := by decide +kernel
theorem dX4_addLast_66 : decode cX4_addLast 66 = .ok (.aload_n 0, 1) := by decide +kernel
theorem dX4_addLast_67 : decode cX4_addLast 67 = .ok (.getfield 22, 3) := by decide +kernel
theorem dX4_addLast_70 : decode cX4_addLast 70 = .ok (.ireturn, 1) := by decide +kernel
theorem dX4_takeAway_0 : decode cX4_takeAway 0 = .ok (.aload_n 0, 1) := by decide +kernel
theorem dX4_takeAway_1 : decode cX4_takeAway 1 = .ok (.getfield 22, 3) := by decide +kernel
theorem dX4_takeAway_4 : decode cX4_takeAway 4 = .ok (.istore_n 1, 1) := by decide +kernel
theorem dX4_takeAway_5 : decode cX4_takeAway 5 = .ok (.aload_n 0, 1) := by decide +kernel
theorem dX4_takeAway_6 : decode cX4_takeAway 6 = .ok (.iconst 0, 1) := by decide +kernel
theorem dX4_takeAway_7 : decode cX4_takeAway 7 = .ok (.putfield 22, 3) := by decide +kernel
theorem dX4_takeAway_10 : decode cX4_takeAway 10 = .ok (.iload_n 1, 1) := by decide +kernel
theorem dX4_takeAway_11 : decode cX4_takeAway 11 = .ok (.ireturn, 1) := by decide +kernel
theorem dX4_pointsReached_0 : decode cX4_pointsReached 0 = .ok (.iconst 0, 1) := by decide +kernel
theorem dX4_pointsReached_1 : decode cX4_pointsReached 1 = .ok (.istore_n 3, 1) := by decide +kernel
theorem dX4_pointsReached_2 : decode cX4_pointsReached 2 = .ok (.iload_n 3, 1) := by decide +kernel
theorem dX4_pointsReached_3 : decode cX4_pointsReached 3 = .ok (.aload_n 0, 1) := by decide +kernel
theorem dX4_pointsReached_4 : decode cX4_pointsReached 4 = .ok (.getfield 22, 3) := by decide +kernel
theorem dX4_pointsReached_7 : decode cX4_pointsReached 7 = .ok (.if_icmp .ge 26, 3) := by decide +kernel
theorem dX4_pointsReached_10 : decode cX4_pointsReached 10 = .ok (.iload_n 3, 1) := by decide +kernel
theorem dX4_pointsReached_11 : decode cX4_pointsReached 11 = .ok (.iconst 5, 1) := by decide +kernel
theorem dX4_pointsReached_12 : decode cX4_pointsReached 12 = .ok (.if_icmp .ge 21, 3) := by decide +kernel
theorem dX4_pointsReached_15 : decode cX4_pointsReached 15 = .ok (.aload_n 0, 1) := by decide +kernel
theorem dX4_pointsReached_16 : decode cX4_pointsReached 16 = .ok (.getfield 9, 3) := by decide +kernel
theorem dX4_pointsReached_19 : decode cX4_pointsReached 19 = .ok (.iload_n 3, 1) := by decide +kernel
theorem dX4_pointsReached_20 : decode cX4_pointsReached 20 = .ok (.iaload, 1) := by decide +kernel
theorem dX4_pointsReached_21 : decode cX4_pointsReached 21 = .ok (.i2l, 1) := by decide +kernel
theorem dX4_pointsReached_22 : decode cX4_pointsReached 22 = .ok (.lload_n 1, 1) := by decide +kernel
theorem dX4_pointsReached_23 : decode cX4_pointsReached 23 = .ok (.lcmp, 1) := by decide +kernel
theorem dX4_pointsReached_24 : decode cX4_pointsReached 24 = .ok (.ifCond .gt 9, 3) := by decide +kernel
theorem dX4_pointsReached_27 : decode cX4_pointsReached 27 = .ok (.iinc 3 1, 3) := by decide +kernel
theorem dX4_pointsReached_30 : decode cX4_pointsReached 30 = .ok (.goto (-28), 3) := by decide +kernel
theorem dX4_pointsReached_33 : decode cX4_pointsReached 33 = .ok (.iload_n 3, 1) := by decide +kernel
theorem dX4_pointsReached_34 : decode cX4_pointsReached 34 = .ok (.ireturn, 1) := by decide +kernel
theorem dX4_pAt_0 : decode cX4_pAt 0 = .ok (.aload_n 0, 1) := by decide +kernel
theorem dX4_pAt_1 : decode cX4_pAt 1 = .ok (.aload_n 0, 1) := by decide +kernel
theorem dX4_pAt_2 : decode cX4_pAt 2 = .ok (.getfield 13, 3) := by decide +kernel
theorem dX4_pAt_5 : decode cX4_pAt 5 = .ok (.iload_n 1, 1) := by decide +kernel
theorem dX4_pAt_6 : decode cX4_pAt 6 = .ok (.lload_n 2, 1) := by decide +kernel
theorem dX4_pAt_7 : decode cX4_pAt 7 = .ok (.invokevirtual 26, 3) := by decide +kernel
theorem dX4_pAt_10 : decode cX4_pAt 10 = .ok (.ireturn, 1) := by decide +kernel
theorem dX4_iAt_0 : decode cX4_iAt 0 = .ok (.aload_n 0, 1) := by decide +kernel
theorem dX4_iAt_1 : decode cX4_iAt 1 = .ok (.aload_n 0, 1) := by decide +kernel
theorem dX4_iAt_2 : decode cX4_iAt 2 = .ok (.getfield 16, 3) := by decide +kernel
theorem dX4_iAt_5 : decode cX4_iAt 5 = .ok (.iload_n 1, 1) := by decide +kernel
theorem dX4_iAt_6 : decode cX4_iAt 6 = .ok (.lload_n 2, 1) := by decide +kernel
theorem dX4_iAt_7 : decode cX4_iAt 7 = .ok (.invokevirtual 26, 3) := by decide +kernel
theorem dX4_iAt_10 : decode cX4_iAt 10 = .ok (.ireturn, 1) := by decide +kernel
theorem dX4_dAt_0 : decode cX4_dAt 0 = .ok (.aload_n 0, 1) := by decide +kernel
theorem dX4_dAt_1 : decode cX4_dAt 1 = .ok (.aload_n 0, 1) := by decide +kernel
theorem dX4_dAt_2 : decode cX4_dAt 2 = .ok (.getfield 19, 3) := by decide +kernel
theorem dX4_dAt_5 : decode cX4_dAt 5 = .ok (.iload_n 1, 1) := by decide +kernel
theorem dX4_dAt_6 : decode cX4_dAt 6 = .ok (.lload_n 2, 1) := by decide +kernel
theorem dX4_dAt_7 : decode cX4_dAt 7 = .ok (.invokevirtual 26, 3) := by decide +kernel
theorem dX4_dAt_10 : decode cX4_dAt 10 = .ok (.ireturn, 1) := by decide +kernel
theorem dX4_gainAt_0 : decode cX4_gainAt 0 = .ok (.iload_n 2, 1) := by decide +kernel
theorem dX4_gainAt_1 : decode cX4_gainAt 1 = .ok (.ifCond .gt 7, 3) := by decide +kernel
theorem dX4_gainAt_4 : decode cX4_gainAt 4 = .ok (.aload_n 1, 1) := by decide +kernel
theorem dX4_gainAt_5 : decode cX4_gainAt 5 = .ok (.iconst 0, 1) := by decide +kernel
theorem dX4_gainAt_6 : decode cX4_gainAt 6 = .ok (.iaload, 1) := by decide +kernel
theorem dX4_gainAt_7 : decode cX4_gainAt 7 = .ok (.ireturn, 1) := by decide +kernel
theorem dX4_gainAt_8 : decode cX4_gainAt 8 = .ok (.iload_n 2, 1) := by decide +kernel
theorem dX4_gainAt_9 : decode cX4_gainAt 9 = .ok (.iconst 1, 1) := by decide +kernel
theorem dX4_gainAt_10 : decode cX4_gainAt 10 = .ok (.isub, 1) := by decide +kernel
theorem dX4_gainAt_11 : decode cX4_gainAt 11 = .ok (.istore 5, 2) := by decide +kernel
theorem dX4_gainAt_13 : decode cX4_gainAt 13 = .ok (.iload_n 2, 1) := by decide +kernel
theorem dX4_gainAt_14 : decode cX4_gainAt 14 = .ok (.aload_n 0, 1) := by decide +kernel
theorem dX4_gainAt_15 : decode cX4_gainAt 15 = .ok (.getfield 22, 3) := by decide +kernel
theorem dX4_gainAt_18 : decode cX4_gainAt 18 = .ok (.if_icmp .ge 8, 3) := by decide +kernel
theorem dX4_gainAt_21 : decode cX4_gainAt 21 = .ok (.iload_n 2, 1) := by decide +kernel
theorem dX4_gainAt_22 : decode cX4_gainAt 22 = .ok (.iconst 5, 1) := by decide +kernel
theorem dX4_gainAt_23 : decode cX4_gainAt 23 = .ok (.if_icmp .lt 12, 3) := by decide +kernel
theorem dX4_gainAt_26 : decode cX4_gainAt 26 = .ok (.aload_n 1, 1) := by decide +kernel
theorem dX4_gainAt_27 : decode cX4_gainAt 27 = .ok (.iload 5, 2) := by decide +kernel
theorem dX4_gainAt_29 : decode cX4_gainAt 29 = .ok (.iconst 4, 1) := by decide +kernel
theorem dX4_gainAt_30 : decode cX4_gainAt 30 = .ok (.invokestatic 30, 3) := by decide +kernel
theorem dX4_gainAt_33 : decode cX4_gainAt 33 = .ok (.iaload, 1) := by decide +kernel
theorem dX4_gainAt_34 : decode cX4_gainAt 34 = .ok (.ireturn, 1) := by decide +kernel
theorem dX4_gainAt_35 : decode cX4_gainAt 35 = .ok (.aload_n 0, 1) := by decide +kernel
theorem dX4_gainAt_36 : decode cX4_gainAt 36 = .ok (.getfield 9, 3) := by decide +kernel
theorem dX4_gainAt_39 : decode cX4_gainAt 39 = .ok (.iload_n 2, 1) := by decide +kernel
theorem dX4_gainAt_40 : decode cX4_gainAt 40 = .ok (.iaload, 1) := by decide +kernel
theorem dX4_gainAt_41 : decode cX4_gainAt 41 = .ok (.i2l, 1) := by decide +kernel
theorem dX4_gainAt_42 : decode cX4_gainAt 42 = .ok (.aload_n 0, 1) := by decide +kernel
theorem dX4_gainAt_43 : decode cX4_gainAt 43 = .ok (.getfield 9, 3) := by decide +kernel
theorem dX4_gainAt_46 : decode cX4_gainAt 46 = .ok (.iload 5, 2) := by decide +kernel
theorem dX4_gainAt_48 : decode cX4_gainAt 48 = .ok (.iaload, 1) := by decide +kernel
theorem dX4_gainAt_49 : decode cX4_gainAt 49 = .ok (.i2l, 1) := by decide +kernel
theorem dX4_gainAt_50 : decode cX4_gainAt 50 = .ok (.lsub, 1) := by decide +kernel
theorem dX4_gainAt_51 : decode cX4_gainAt 51 = .ok (.lstore 6, 2) := by decide +kernel
theorem dX4_gainAt_53 : decode cX4_gainAt 53 = .ok (.aload_n 1, 1) := by decide +kernel
theorem dX4_gainAt_54 : decode cX4_gainAt 54 = .ok (.iload_n 2, 1) := by decide +kernel
theorem dX4_gainAt_55 : decode cX4_gainAt 55 = .ok (.iaload, 1) := by decide +kernel
theorem dX4_gainAt_56 : decode cX4_gainAt 56 = .ok (.i2l, 1) := by decide +kernel
theorem dX4_gainAt_57 : decode cX4_gainAt 57 = .ok (.aload_n 1, 1) := by decide +kernel
theorem dX4_gainAt_58 : decode cX4_gainAt 58 = .ok (.iload 5, 2) := by decide +kernel
theorem dX4_gainAt_60 : decode cX4_gainAt 60 = .ok (.iaload, 1) := by decide +kernel
theorem dX4_gainAt_61 : decode cX4_gainAt 61 = .ok (.i2l, 1) := by decide +kernel
theorem dX4_gainAt_62 : decode cX4_gainAt 62 = .ok (.lsub, 1) := by decide +kernel
theorem dX4_gainAt_63 : decode cX4_gainAt 63 = .ok (.lstore 8, 2) := by decide +kernel
theorem dX4_gainAt_65 : decode cX4_gainAt 65 = .ok (.lload 6, 2) := by decide +kernel
theorem dX4_gainAt_67 : decode cX4_gainAt 67 = .ok (.lconst 0, 1) := by decide +kernel
theorem dX4_gainAt_68 : decode cX4_gainAt 68 = .ok (.lcmp, 1) := by decide +kernel
theorem dX4_gainAt_69 : decode cX4_gainAt 69 = .ok (.ifCond .gt 7, 3) := by decide +kernel
theorem dX4_gainAt_72 : decode cX4_gainAt 72 = .ok (.aload_n 1, 1) := by decide +kernel
theorem dX4_gainAt_73 : decode cX4_gainAt 73 = .ok (.iload_n 2, 1) := by decide +kernel
theorem dX4_gainAt_74 : decode cX4_gainAt 74 = .ok (.iaload, 1) := by decide +kernel
theorem dX4_gainAt_75 : decode cX4_gainAt 75 = .ok (.ireturn, 1) := by decide +kernel
theorem dX4_gainAt_76 : decode cX4_gainAt 76 = .ok (.aload_n 1, 1) := by decide +kernel
theorem dX4_gainAt_77 : decode cX4_gainAt 77 = .ok (.iload 5, 2) := by decide +kernel
theorem dX4_gainAt_79 : decode cX4_gainAt 79 = .ok (.iaload, 1) := by decide +kernel
theorem dX4_gainAt_80 : decode cX4_gainAt 80 = .ok (.lload 8, 2) := by decide +kernel
theorem dX4_gainAt_82 : decode cX4_gainAt 82 = .ok (.lload_n 3, 1) := by decide +kernel
theorem dX4_gainAt_83 : decode cX4_gainAt 83 = .ok (.aload_n 0, 1) := by decide +kernel
theorem dX4_gainAt_84 : decode cX4_gainAt 84 = .ok (.getfield 9, 3) := by decide +kernel
theorem dX4_gainAt_87 : decode cX4_gainAt 87 = .ok (.iload 5, 2) := by decide +kernel
theorem dX4_gainAt_89 : decode cX4_gainAt 89 = .ok (.iaload, 1) := by decide +kernel
theorem dX4_gainAt_90 : decode cX4_gainAt 90 = .ok (.i2l, 1) := by decide +kernel
theorem dX4_gainAt_91 : decode cX4_gainAt 91 = .ok (.lsub, 1) := by decide +kernel
theorem dX4_gainAt_92 : decode cX4_gainAt 92 = .ok (.lmul, 1) := by decide +kernel
theorem dX4_gainAt_93 : decode cX4_gainAt 93 = .ok (.lload 6, 2) := by decide +kernel
theorem dX4_gainAt_95 : decode cX4_gainAt 95 = .ok (.invokestatic 36, 3) := by decide +kernel
theorem dX4_gainAt_98 : decode cX4_gainAt 98 = .ok (.l2i, 1) := by decide +kernel
theorem dX4_gainAt_99 : decode cX4_gainAt 99 = .ok (.iadd, 1) := by decide +kernel
theorem dX4_gainAt_100 : decode cX4_gainAt 100 = .ok (.ireturn, 1) := by decide +kernel
theorem dX5_init_0 : decode cX5_init 0 = .ok (.aload_n 0, 1) := by decide +kernel
theorem dX5_init_1 : decode cX5_init 1 = .ok (.invokespecial 1, 3) := by decide +kernel
theorem dX5_init_4 : decode cX5_init 4 = .ok (.aload_n 0, 1) := by decide +kernel
theorem dX5_init_5 : decode cX5_init 5 = .ok (.iconst 3, 1) := by decide +kernel
theorem dX5_init_6 : decode cX5_init 6 = .ok (.anewarray 9, 3) := by decide +kernel
theorem dX5_init_9 : decode cX5_init 9 = .ok (.putfield 11, 3) := by decide +kernel
theorem dX5_init_12 : decode cX5_init 12 = .ok (.iconst 0, 1) := by decide +kernel
theorem dX5_init_13 : decode cX5_init 13 = .ok (.istore_n 1, 1) := by decide +kernel
theorem dX5_init_14 : decode cX5_init 14 = .ok (.iload_n 1, 1) := by decide +kernel
theorem dX5_init_15 : decode cX5_init 15 = .ok (.aload_n 0, 1) := by decide +kernel
theorem dX5_init_16 : decode cX5_init 16 = .ok (.getfield 11, 3) := by decide +kernel
theorem dX5_init_19 : decode cX5_init 19 = .ok (.arraylength, 1) := by decide +kernel
theorem dX5_init_20 : decode cX5_init 20 = .ok (.if_icmp .ge 22, 3) := by decide +kernel
theorem dX5_init_23 : decode cX5_init 23 = .ok (.aload_n 0, 1) := by decide +kernel
theorem dX5_init_24 : decode cX5_init 24 = .ok (.getfield 11, 3) := by decide +kernel
theorem dX5_init_27 : decode cX5_init 27 = .ok (.iload_n 1, 1) := by decide +kernel
theorem dX5_init_28 : decode cX5_init 28 = .ok (.new 9, 3) := by decide +kernel
theorem dX5_init_31 : decode cX5_init 31 = .ok (.dup, 1) := by decide +kernel
theorem dX5_init_32 : decode cX5_init 32 = .ok (.invokespecial 15, 3) := by decide +kernel
theorem dX5_init_35 : decode cX5_init 35 = .ok (.aastore, 1) := by decide +kernel
theorem dX5_init_36 : decode cX5_init 36 = .ok (.iinc 1 1, 3) := by decide +kernel
theorem dX5_init_39 : decode cX5_init 39 = .ok (.goto (-25), 3) := by decide +kernel
theorem dX5_init_42 : decode cX5_init 42 = .ok (.return_, 1) := by decide +kernel
theorem dX5_setPlant_0 : decode cX5_setPlant 0 = .ok (.aload_n 0, 1) := by decide +kernel
theorem dX5_setPlant_1 : decode cX5_setPlant 1 = .ok (.iload_n 1, 1) := by decide +kernel
theorem dX5_setPlant_2 : decode cX5_setPlant 2 = .ok (.invokevirtual 16, 3) := by decide +kernel
theorem dX5_setPlant_5 : decode cX5_setPlant 5 = .ok (.getfield 20, 3) := by decide +kernel
theorem dX5_setPlant_8 : decode cX5_setPlant 8 = .ok (.astore 6, 2) := by decide +kernel
theorem dX5_setPlant_10 : decode cX5_setPlant 10 = .ok (.iload_n 2, 1) := by decide +kernel
theorem dX5_setPlant_11 : decode cX5_setPlant 11 = .ok (.sipush (-2000), 3) := by decide +kernel
theorem dX5_setPlant_14 : decode cX5_setPlant 14 = .ok (.sipush 2000, 3) := by decide +kernel
theorem dX5_setPlant_17 : decode cX5_setPlant 17 = .ok (.invokestatic 24, 3) := by decide +kernel
theorem dX5_setPlant_20 : decode cX5_setPlant 20 = .ok (.iload_n 3, 1) := by decide +kernel
theorem dX5_setPlant_21 : decode cX5_setPlant 21 = .ok (.sipush (-1000), 3) := by decide +kernel
theorem dX5_setPlant_24 : decode cX5_setPlant 24 = .ok (.sipush 1000, 3) := by decide +kernel
theorem dX5_setPlant_27 : decode cX5_setPlant 27 = .ok (.invokestatic 24, 3) := by decide +kernel
theorem dX5_setPlant_30 : decode cX5_setPlant 30 = .ok (.iload 4, 2) := by decide +kernel
theorem dX5_setPlant_32 : decode cX5_setPlant 32 = .ok (.sipush (-2000), 3) := by decide +kernel
theorem dX5_setPlant_35 : decode cX5_setPlant 35 = .ok (.sipush 2000, 3) := by decide +kernel
theorem dX5_setPlant_38 : decode cX5_setPlant 38 = .ok (.invokestatic 24, 3) := by decide +kernel
theorem dX5_setPlant_41 : decode cX5_setPlant 41 = .ok (.iload 5, 2) := by decide +kernel
theorem dX5_setPlant_43 : decode cX5_setPlant 43 = .ok (.iconst 0, 1) := by decide +kernel
theorem dX5_setPlant_44 : decode cX5_setPlant 44 = .ok (.bipush 10, 2) := by decide +kernel
theorem dX5_setPlant_46 : decode cX5_setPlant 46 = .ok (.invokestatic 24, 3) := by decide +kernel
theorem dX5_setPlant_49 : decode cX5_setPlant 49 = .ok (.aload 6, 2) := by decide +kernel
theorem dX5_setPlant_51 : decode cX5_setPlant 51 = .ok (.iload_n 2, 1) := by decide +kernel
theorem dX5_setPlant_52 : decode cX5_setPlant 52 = .ok (.putfield 30, 3) := by decide +kernel
theorem dX5_setPlant_55 : decode cX5_setPlant 55 = .ok (.aload 6, 2) := by decide +kernel
theorem dX5_setPlant_57 : decode cX5_setPlant 57 = .ok (.iload_n 3, 1) := by decide +kernel
theorem dX5_setPlant_58 : decode cX5_setPlant 58 = .ok (.putfield 34, 3) := by decide +kernel
theorem dX5_setPlant_61 : decode cX5_setPlant 61 = .ok (.aload 6, 2) := by decide +kernel
theorem dX5_setPlant_63 : decode cX5_setPlant 63 = .ok (.iload 4, 2) := by decide +kernel
theorem dX5_setPlant_65 : decode cX5_setPlant 65 = .ok (.putfield 37, 3) := by decide +kernel
theorem dX5_setPlant_68 : decode cX5_setPlant 68 = .ok (.aload 6, 2) := by decide +kernel
theorem dX5_setPlant_70 : decode cX5_setPlant 70 = .ok (.iload 5, 2) := by decide +kernel
theorem dX5_setPlant_72 : decode cX5_setPlant 72 = .ok (.putfield 40, 3) := by decide +kernel
theorem dX5_setPlant_75 : decode cX5_setPlant 75 = .ok (.return_, 1) := by decide +kernel
theorem dX5_setLoad_0 : decode cX5_setLoad 0 = .ok (.aload_n 0, 1) := by decide +kernel
theorem dX5_setLoad_1 : decode cX5_setLoad 1 = .ok (.iload_n 1, 1) := by decide +kernel
theorem dX5_setLoad_2 : decode cX5_setLoad 2 = .ok (.invokevirtual 16, 3) := by decide +kernel
theorem dX5_setLoad_5 : decode cX5_setLoad 5 = .ok (.getfield 20, 3) := by decide +kernel
theorem dX5_setLoad_8 : decode cX5_setLoad 8 = .ok (.astore_n 3, 1) := by decide +kernel
theorem dX5_setLoad_9 : decode cX5_setLoad 9 = .ok (.iload_n 2, 1) := by decide +kernel
theorem dX5_setLoad_10 : decode cX5_setLoad 10 = .ok (.sipush (-10000), 3) := by decide +kernel
theorem dX5_setLoad_13 : decode cX5_setLoad 13 = .ok (.sipush 10000, 3) := by decide +kernel
theorem dX5_setLoad_16 : decode cX5_setLoad 16 = .ok (.invokestatic 24, 3) := by decide +kernel
theorem dX5_setLoad_19 : decode cX5_setLoad 19 = .ok (.aload_n 3, 1) := by decide +kernel
theorem dX5_setLoad_20 : decode cX5_setLoad 20 = .ok (.getfield 43, 3) := by decide +kernel
theorem dX5_setLoad_23 : decode cX5_setLoad 23 = .ok (.istore 4, 2) := by decide +kernel
theorem dX5_setLoad_25 : decode cX5_setLoad 25 = .ok (.aload_n 3, 1) := by decide +kernel
theorem dX5_setLoad_26 : decode cX5_setLoad 26 = .ok (.iload_n 2, 1) := by decide +kernel
theorem dX5_setLoad_27 : decode cX5_setLoad 27 = .ok (.putfield 43, 3) := by decide +kernel
theorem dX5_setLoad_30 : decode cX5_setLoad 30 = .ok (.iload 4, 2) := by decide +kernel
theorem dX5_setLoad_32 : decode cX5_setLoad 32 = .ok (.ireturn, 1) := by decide +kernel
theorem dX5_setGains_0 : decode cX5_setGains 0 = .ok (.aload_n 0, 1) := by decide +kernel
theorem dX5_setGains_1 : decode cX5_setGains 1 = .ok (.iload_n 1, 1) := by decide +kernel
theorem dX5_setGains_2 : decode cX5_setGains 2 = .ok (.invokevirtual 16, 3) := by decide +kernel
theorem dX5_setGains_5 : decode cX5_setGains 5 = .ok (.astore 5, 2) := by decide +kernel
theorem dX5_setGains_7 : decode cX5_setGains 7 = .ok (.iload_n 2, 1) := by decide +kernel
theorem dX5_setGains_8 : decode cX5_setGains 8 = .ok (.iload_n 3, 1) := by decide +kernel
theorem dX5_setGains_9 : decode cX5_setGains 9 = .ok (.iload 4, 2) := by decide +kernel
theorem dX5_setGains_11 : decode cX5_setGains 11 = .ok (.invokestatic 46, 3) := by decide +kernel
theorem dX5_setGains_14 : decode cX5_setGains 14 = .ok (.aload 5, 2) := by decide +kernel
theorem dX5_setGains_16 : decode cX5_setGains 16 = .ok (.getfield 49, 3) := by decide +kernel
theorem dX5_setGains_19 : decode cX5_setGains 19 = .ok (.iconst 3, 1) := by decide +kernel
theorem dX5_setGains_20 : decode cX5_setGains 20 = .ok (.if_icmp .eq 7, 3) := by decide +kernel
theorem dX5_setGains_23 : decode cX5_setGains 23 = .ok (.iconst 1, 1) := by decide +kernel
theorem dX5_setGains_24 : decode cX5_setGains 24 = .ok (.goto 4, 3) := by decide +kernel
theorem dX5_setGains_27 : decode cX5_setGains 27 = .ok (.iconst 0, 1) := by decide +kernel
theorem dX5_setGains_28 : decode cX5_setGains 28 = .ok (.invokestatic 52, 3) := by decide +kernel
theorem dX5_setGains_31 : decode cX5_setGains 31 = .ok (.aload 5, 2) := by decide +kernel
theorem dX5_setGains_33 : decode cX5_setGains 33 = .ok (.getfield 56, 3) := by decide +kernel
theorem dX5_setGains_36 : decode cX5_setGains 36 = .ok (.iload_n 2, 1) := by decide +kernel
theorem dX5_setGains_37 : decode cX5_setGains 37 = .ok (.iload_n 3, 1) := by decide +kernel
theorem dX5_setGains_38 : decode cX5_setGains 38 = .ok (.iload 4, 2) := by decide +kernel
theorem dX5_setGains_40 : decode cX5_setGains 40 = .ok (.invokevirtual 60, 3) := by decide +kernel
theorem dX5_setGains_43 : decode cX5_setGains 43 = .ok (.aload 5, 2) := by decide +kernel
theorem dX5_setGains_45 : decode cX5_setGains 45 = .ok (.getfield 65, 3) := by decide +kernel
theorem dX5_setGains_48 : decode cX5_setGains 48 = .ok (.invokevirtual 69, 3) := by decide +kernel
theorem dX5_setGains_51 : decode cX5_setGains 51 = .ok (.ireturn, 1) := by decide +kernel
theorem dX5_addPoint_0 : decode cX5_addPoint 0 = .ok (.aload_n 0, 1) := by decide +kernel
theorem dX5_addPoint_1 : decode cX5_addPoint 1 = .ok (.iload_n 1, 1) := by decide +kernel
theorem dX5_addPoint_2 : decode cX5_addPoint 2 = .ok (.invokevirtual 16, 3) := by decide +kernel
theorem dX5_addPoint_5 : decode cX5_addPoint 5 = .ok (.getfield 65, 3) := by decide +kernel
theorem dX5_addPoint_8 : decode cX5_addPoint 8 = .ok (.astore 6, 2) := by decide +kernel
theorem dX5_addPoint_10 : decode cX5_addPoint 10 = .ok (.iload_n 2, 1) := by decide +kernel
theorem dX5_addPoint_11 : decode cX5_addPoint 11 = .ok (.ldc 75, 2) := by decide +kernel
theorem dX5_addPoint_13 : decode cX5_addPoint 13 = .ok (.ldc 76, 2) := by decide +kernel
theorem dX5_addPoint_15 : decode cX5_addPoint 15 = .ok (.invokestatic 24, 3) := by decide +kernel
theorem dX5_addPoint_18 : decode cX5_addPoint 18 = .ok (.iload_n 3, 1) := by decide +kernel
theorem dX5_addPoint_19 : decode cX5_addPoint 19 = .ok (.iload 4, 2) := by decide +kernel
theorem dX5_addPoint_21 : decode cX5_addPoint 21 = .ok (.iload 5, 2) := by decide +kernel
theorem dX5_addPoint_23 : decode cX5_addPoint 23 = .ok (.invokestatic 46, 3) := by decide +kernel
theorem dX5_addPoint_26 : decode cX5_addPoint 26 = .ok (.aload 6, 2) := by decide +kernel
theorem dX5_addPoint_28 : decode cX5_addPoint 28 = .ok (.iload_n 2, 1) := by decide +kernel
theorem dX5_addPoint_29 : decode cX5_addPoint 29 = .ok (.invokevirtual 77, 3) := by decide +kernel
theorem dX5_addPoint_32 : decode cX5_addPoint 32 = .ok (.invokestatic 81, 3) := by decide +kernel
theorem dX5_addPoint_35 : decode cX5_addPoint 35 = .ok (.aload 6, 2) := by decide +kernel
theorem dX5_addPoint_37 : decode cX5_addPoint 37 = .ok (.invokevirtual 84, 3) := by decide +kernel
theorem dX5_addPoint_40 : decode cX5_addPoint 40 = .ok (.ifCond .ne 7, 3) := by decide +kernel
theorem dX5_addPoint_43 : decode cX5_addPoint 43 = .ok (.iconst 1, 1) := by decide +kernel
theorem dX5_addPoint_44 : decode cX5_addPoint 44 = .ok (.goto 4, 3) := by decide +kernel
theorem dX5_addPoint_47 : decode cX5_addPoint 47 = .ok (.iconst 0, 1) := by decide +kernel
theorem dX5_addPoint_48 : decode cX5_addPoint 48 = .ok (.invokestatic 52, 3) := by decide +kernel
theorem dX5_addPoint_51 : decode cX5_addPoint 51 = .ok (.aload 6, 2) := by decide +kernel
theorem dX5_addPoint_53 : decode cX5_addPoint 53 = .ok (.iload_n 2, 1) := by decide +kernel
theorem dX5_addPoint_54 : decode cX5_addPoint 54 = .ok (.iload_n 3, 1) := by decide +kernel
theorem dX5_addPoint_55 : decode cX5_addPoint 55 = .ok (.iload 4, 2) := by decide +kernel
theorem dX5_addPoint_57 : decode cX5_addPoint 57 = .ok (.iload 5, 2) := by decide +kernel
theorem dX5_addPoint_59 : decode cX5_addPoint 59 = .ok (.invokevirtual 88, 3) := by decide +kernel
theorem dX5_addPoint_62 : decode cX5_addPoint 62 = .ok (.ireturn, 1) := by decide +kernel
theorem dX5_setLimits_0 : decode cX5_setLimits 0 = .ok (.aload_n 0, 1) := by decide +kernel
theorem dX5_setLimits_1 : decode cX5_setLimits 1 = .ok (.iload_n 1, 1) := by decide +kernel
theorem dX5_setLimits_2 : decode cX5_setLimits 2 = .ok (.invokevirtual 16, 3) := by decide +kernel
theorem dX5_setLimits_5 : decode cX5_setLimits 5 = .ok (.getfield 56, 3) := by decide +kernel
theorem dX5_setLimits_8 : decode cX5_setLimits 8 = .ok (.astore 4, 2) := by decide +kernel
theorem dX5_setLimits_10 : decode cX5_setLimits 10 = .ok (.iload_n 2, 1) := by decide +kernel
theorem dX5_setLimits_11 : decode cX5_setLimits 11 = .ok (.ldc 75, 2) := by decide +kernel
theorem dX5_setLimits_13 : decode cX5_setLimits 13 = .ok (.ldc 76, 2) := by decide +kernel
theorem dX5_setLimits_15 : decode cX5_setLimits 15 = .ok (.invokestatic 24, 3) := by decide +kernel
theorem dX5_setLimits_18 : decode cX5_setLimits 18 = .ok (.iload_n 3, 1) := by decide +kernel
theorem dX5_setLimits_19 : decode cX5_setLimits 19 = .ok (.iload_n 2, 1) := by decide +kernel
theorem dX5_setLimits_20 : decode cX5_setLimits 20 = .ok (.ldc 76, 2) := by decide +kernel
theorem dX5_setLimits_22 : decode cX5_setLimits 22 = .ok (.invokestatic 24, 3) := by decide +kernel
theorem dX5_setLimits_25 : decode cX5_setLimits 25 = .ok (.aload 4, 2) := by decide +kernel
theorem dX5_setLimits_27 : decode cX5_setLimits 27 = .ok (.iload_n 2, 1) := by decide +kernel
theorem dX5_setLimits_28 : decode cX5_setLimits 28 = .ok (.putfield 92, 3) := by decide +kernel
theorem dX5_setLimits_31 : decode cX5_setLimits 31 = .ok (.aload 4, 2) := by decide +kernel
theorem dX5_setLimits_33 : decode cX5_setLimits 33 = .ok (.iload_n 3, 1) := by decide +kernel
theorem dX5_setLimits_34 : decode cX5_setLimits 34 = .ok (.putfield 95, 3) := by decide +kernel
theorem dX5_setLimits_37 : decode cX5_setLimits 37 = .ok (.return_, 1) := by decide +kernel
theorem dX5_setGuard_0 : decode cX5_setGuard 0 = .ok (.aload_n 0, 1) := by decide +kernel
theorem dX5_setGuard_1 : decode cX5_setGuard 1 = .ok (.iload_n 1, 1) := by decide +kernel
theorem dX5_setGuard_2 : decode cX5_setGuard 2 = .ok (.invokevirtual 16, 3) := by decide +kernel
theorem dX5_setGuard_5 : decode cX5_setGuard 5 = .ok (.getfield 56, 3) := by decide +kernel
theorem dX5_setGuard_8 : decode cX5_setGuard 8 = .ok (.astore 4, 2) := by decide +kernel
theorem dX5_setGuard_10 : decode cX5_setGuard 10 = .ok (.iload_n 2, 1) := by decide +kernel
theorem dX5_setGuard_11 : decode cX5_setGuard 11 = .ok (.iconst 0, 1) := by decide +kernel
theorem dX5_setGuard_12 : decode cX5_setGuard 12 = .ok (.iconst 2, 1) := by decide +kernel
theorem dX5_setGuard_13 : decode cX5_setGuard 13 = .ok (.invokestatic 24, 3) := by decide +kernel
theorem dX5_setGuard_16 : decode cX5_setGuard 16 = .ok (.iload_n 3, 1) := by decide +kernel
theorem dX5_setGuard_17 : decode cX5_setGuard 17 = .ok (.iconst 0, 1) := by decide +kernel
theorem dX5_setGuard_18 : decode cX5_setGuard 18 = .ok (.sipush 1000, 3) := by decide +kernel
theorem dX5_setGuard_21 : decode cX5_setGuard 21 = .ok (.invokestatic 24, 3) := by decide +kernel
theorem dX5_setGuard_24 : decode cX5_setGuard 24 = .ok (.aload 4, 2) := by decide +kernel
theorem dX5_setGuard_26 : decode cX5_setGuard 26 = .ok (.getfield 98, 3) := by decide +kernel
theorem dX5_setGuard_29 : decode cX5_setGuard 29 = .ok (.istore 5, 2) := by decide +kernel
theorem dX5_setGuard_31 : decode cX5_setGuard 31 = .ok (.aload 4, 2) := by decide +kernel
theorem dX5_setGuard_33 : decode cX5_setGuard 33 = .ok (.iload_n 2, 1) := by decide +kernel
theorem dX5_setGuard_34 : decode cX5_setGuard 34 = .ok (.putfield 98, 3) := by decide +kernel
theorem dX5_setGuard_37 : decode cX5_setGuard 37 = .ok (.aload 4, 2) := by decide +kernel
theorem dX5_setGuard_39 : decode cX5_setGuard 39 = .ok (.iload_n 3, 1) := by decide +kernel
theorem dX5_setGuard_40 : decode cX5_setGuard 40 = .ok (.putfield 101, 3) := by decide +kernel
theorem dX5_setGuard_43 : decode cX5_setGuard 43 = .ok (.iload 5, 2) := by decide +kernel
theorem dX5_setGuard_45 : decode cX5_setGuard 45 = .ok (.ireturn, 1) := by decide +kernel
theorem dX5_setSetpoint_0 : decode cX5_setSetpoint 0 = .ok (.aload_n 0, 1) := by decide +kernel
theorem dX5_setSetpoint_1 : decode cX5_setSetpoint 1 = .ok (.iload_n 1, 1) := by decide +kernel
theorem dX5_setSetpoint_2 : decode cX5_setSetpoint 2 = .ok (.invokevirtual 16, 3) := by decide +kernel
theorem dX5_setSetpoint_5 : decode cX5_setSetpoint 5 = .ok (.astore_n 3, 1) := by decide +kernel
theorem dX5_setSetpoint_6 : decode cX5_setSetpoint 6 = .ok (.iload_n 2, 1) := by decide +kernel
theorem dX5_setSetpoint_7 : decode cX5_setSetpoint 7 = .ok (.ldc 75, 2) := by decide +kernel
theorem dX5_setSetpoint_9 : decode cX5_setSetpoint 9 = .ok (.ldc 76, 2) := by decide +kernel
theorem dX5_setSetpoint_11 : decode cX5_setSetpoint 11 = .ok (.invokestatic 24, 3) := by decide +kernel
theorem dX5_setSetpoint_14 : decode cX5_setSetpoint 14 = .ok (.aload_n 3, 1) := by decide +kernel
theorem dX5_setSetpoint_15 : decode cX5_setSetpoint 15 = .ok (.getfield 49, 3) := by decide +kernel
theorem dX5_setSetpoint_18 : decode cX5_setSetpoint 18 = .ok (.iconst 2, 1) := by decide +kernel
theorem dX5_setSetpoint_19 : decode cX5_setSetpoint 19 = .ok (.if_icmp .eq 7, 3) := by decide +kernel
theorem dX5_setSetpoint_22 : decode cX5_setSetpoint 22 = .ok (.iconst 1, 1) := by decide +kernel
theorem dX5_setSetpoint_23 : decode cX5_setSetpoint 23 = .ok (.goto 4, 3) := by decide +kernel
theorem dX5_setSetpoint_26 : decode cX5_setSetpoint 26 = .ok (.iconst 0, 1) := by decide +kernel
theorem dX5_setSetpoint_27 : decode cX5_setSetpoint 27 = .ok (.invokestatic 52, 3) := by decide +kernel
theorem dX5_setSetpoint_30 : decode cX5_setSetpoint 30 = .ok (.aload_n 3, 1) := by decide +kernel
theorem dX5_setSetpoint_31 : decode cX5_setSetpoint 31 = .ok (.getfield 56, 3) := by decide +kernel
theorem dX5_setSetpoint_34 : decode cX5_setSetpoint 34 = .ok (.getfield 104, 3) := by decide +kernel
theorem dX5_setSetpoint_37 : decode cX5_setSetpoint 37 = .ok (.lstore 4, 2) := by decide +kernel
theorem dX5_setSetpoint_39 : decode cX5_setSetpoint 39 = .ok (.aload_n 3, 1) := by decide +kernel
theorem dX5_setSetpoint_40 : decode cX5_setSetpoint 40 = .ok (.getfield 56, 3) := by decide +kernel
theorem dX5_setSetpoint_43 : decode cX5_setSetpoint 43 = .ok (.iload_n 2, 1) := by decide +kernel
theorem dX5_setSetpoint_44 : decode cX5_setSetpoint 44 = .ok (.i2l, 1) := by decide +kernel
theorem dX5_setSetpoint_45 : decode cX5_setSetpoint 45 = .ok (.putfield 104, 3) := by decide +kernel
theorem dX5_setSetpoint_48 : decode cX5_setSetpoint 48 = .ok (.lload 4, 2) := by decide +kernel
theorem dX5_setSetpoint_50 : decode cX5_setSetpoint 50 = .ok (.l2i, 1) := by decide +kernel
theorem dX5_setSetpoint_51 : decode cX5_setSetpoint 51 = .ok (.ireturn, 1) := by decide +kernel
theorem dX5_setHand_0 : decode cX5_setHand 0 = .ok (.aload_n 0, 1) := by decide +kernel
theorem dX5_setHand_1 : decode cX5_setHand 1 = .ok (.iload_n 1, 1) := by decide +kernel
theorem dX5_setHand_2 : decode cX5_setHand 2 = .ok (.invokevirtual 16, 3) := by decide +kernel
theorem dX5_setHand_5 : decode cX5_setHand 5 = .ok (.astore_n 3, 1) := by decide +kernel
theorem dX5_setHand_6 : decode cX5_setHand 6 = .ok (.iload_n 2, 1) := by decide +kernel
theorem dX5_setHand_7 : decode cX5_setHand 7 = .ok (.ldc 75, 2) := by decide +kernel
theorem dX5_setHand_9 : decode cX5_setHand 9 = .ok (.ldc 76, 2) := by decide +kernel
theorem dX5_setHand_11 : decode cX5_setHand 11 = .ok (.invokestatic 24, 3) := by decide +kernel
theorem dX5_setHand_14 : decode cX5_setHand 14 = .ok (.aload_n 3, 1) := by decide +kernel
theorem dX5_setHand_15 : decode cX5_setHand 15 = .ok (.getfield 49, 3) := by decide +kernel
theorem dX5_setHand_18 : decode cX5_setHand 18 = .ok (.ifCond .ne 7, 3) := by decide +kernel
theorem dX5_setHand_21 : decode cX5_setHand 21 = .ok (.iconst 1, 1) := by decide +kernel
theorem dX5_setHand_22 : decode cX5_setHand 22 = .ok (.goto 4, 3) := by decide +kernel
theorem dX5_setHand_25 : decode cX5_setHand 25 = .ok (.iconst 0, 1) := by decide +kernel
theorem dX5_setHand_26 : decode cX5_setHand 26 = .ok (.invokestatic 52, 3) := by decide +kernel
theorem dX5_setHand_29 : decode cX5_setHand 29 = .ok (.aload_n 3, 1) := by decide +kernel
theorem dX5_setHand_30 : decode cX5_setHand 30 = .ok (.getfield 108, 3) := by decide +kernel
theorem dX5_setHand_33 : decode cX5_setHand 33 = .ok (.lstore 4, 2) := by decide +kernel
theorem dX5_setHand_35 : decode cX5_setHand 35 = .ok (.aload_n 3, 1) := by decide +kernel
theorem dX5_setHand_36 : decode cX5_setHand 36 = .ok (.iload_n 2, 1) := by decide +kernel
theorem dX5_setHand_37 : decode cX5_setHand 37 = .ok (.i2l, 1) := by decide +kernel
theorem dX5_setHand_38 : decode cX5_setHand 38 = .ok (.putfield 108, 3) := by decide +kernel
theorem dX5_setHand_41 : decode cX5_setHand 41 = .ok (.lload 4, 2) := by decide +kernel
theorem dX5_setHand_43 : decode cX5_setHand 43 = .ok (.l2i, 1) := by decide +kernel
theorem dX5_setHand_44 : decode cX5_setHand 44 = .ok (.ireturn, 1) := by decide +kernel
theorem dX5_setTies_0 : decode cX5_setTies 0 = .ok (.aload_n 0, 1) := by decide +kernel
theorem dX5_setTies_1 : decode cX5_setTies 1 = .ok (.iload_n 1, 1) := by decide +kernel
theorem dX5_setTies_2 : decode cX5_setTies 2 = .ok (.invokevirtual 16, 3) := by decide +kernel
theorem dX5_setTies_5 : decode cX5_setTies 5 = .ok (.astore 4, 2) := by decide +kernel
theorem dX5_setTies_7 : decode cX5_setTies 7 = .ok (.iload_n 1, 1) := by decide +kernel
theorem dX5_setTies_8 : decode cX5_setTies 8 = .ok (.ifCond .ne 7, 3) := by decide +kernel
theorem dX5_setTies_11 : decode cX5_setTies 11 = .ok (.iload_n 3, 1) := by decide +kernel
theorem dX5_setTies_12 : decode cX5_setTies 12 = .ok (.ifCond .ne 7, 3) := by decide +kernel
theorem dX5_setTies_15 : decode cX5_setTies 15 = .ok (.iconst 1, 1) := by decide +kernel
theorem dX5_setTies_16 : decode cX5_setTies 16 = .ok (.goto 4, 3) := by decide +kernel
theorem dX5_setTies_19 : decode cX5_setTies 19 = .ok (.iconst 0, 1) := by decide +kernel
theorem dX5_setTies_20 : decode cX5_setTies 20 = .ok (.invokestatic 81, 3) := by decide +kernel
theorem dX5_setTies_23 : decode cX5_setTies 23 = .ok (.iload_n 3, 1) := by decide +kernel
theorem dX5_setTies_24 : decode cX5_setTies 24 = .ok (.ifCond .ne 12, 3) := by decide +kernel
theorem dX5_setTies_27 : decode cX5_setTies 27 = .ok (.aload 4, 2) := by decide +kernel
theorem dX5_setTies_29 : decode cX5_setTies 29 = .ok (.getfield 49, 3) := by decide +kernel
theorem dX5_setTies_32 : decode cX5_setTies 32 = .ok (.iconst 2, 1) := by decide +kernel
theorem dX5_setTies_33 : decode cX5_setTies 33 = .ok (.if_icmp .eq 7, 3) := by decide +kernel
theorem dX5_setTies_36 : decode cX5_setTies 36 = .ok (.iconst 1, 1) := by decide +kernel
theorem dX5_setTies_37 : decode cX5_setTies 37 = .ok (.goto 4, 3) := by decide +kernel
theorem dX5_setTies_40 : decode cX5_setTies 40 = .ok (.iconst 0, 1) := by decide +kernel
theorem dX5_setTies_41 : decode cX5_setTies 41 = .ok (.invokestatic 52, 3) := by decide +kernel
theorem dX5_setTies_44 : decode cX5_setTies 44 = .ok (.aload 4, 2) := by decide +kernel
theorem dX5_setTies_46 : decode cX5_setTies 46 = .ok (.iload_n 2, 1) := by decide +kernel
theorem dX5_setTies_47 : decode cX5_setTies 47 = .ok (.putfield 111, 3) := by decide +kernel
theorem dX5_setTies_50 : decode cX5_setTies 50 = .ok (.aload 4, 2) := by decide +kernel
theorem dX5_setTies_52 : decode cX5_setTies 52 = .ok (.iload_n 3, 1) := by decide +kernel
theorem dX5_setTies_53 : decode cX5_setTies 53 = .ok (.putfield 115, 3) := by decide +kernel
theorem dX5_setTies_56 : decode cX5_setTies 56 = .ok (.return_, 1) := by decide +kernel
theorem dX5_setMode_0 : decode cX5_setMode 0 = .ok (.aload_n 0, 1) := by decide +kernel
theorem dX5_setMode_1 : decode cX5_setMode 1 = .ok (.iload_n 1, 1) := by decide +kernel
theorem dX5_setMode_2 : decode cX5_setMode 2 = .ok (.invokevirtual 16, 3) := by decide +kernel
theorem dX5_setMode_5 : decode cX5_setMode 5 = .ok (.astore_n 3, 1) := by decide +kernel
theorem dX5_setMode_6 : decode cX5_setMode 6 = .ok (.iload_n 2, 1) := by decide +kernel
theorem dX5_setMode_7 : decode cX5_setMode 7 = .ok (.iconst 0, 1) := by decide +kernel
theorem dX5_setMode_8 : decode cX5_setMode 8 = .ok (.iconst 2, 1) := by decide +kernel
theorem dX5_setMode_9 : decode cX5_setMode 9 = .ok (.invokestatic 24, 3) := by decide +kernel
theorem dX5_setMode_12 : decode cX5_setMode 12 = .ok (.aload_n 3, 1) := by decide +kernel
theorem dX5_setMode_13 : decode cX5_setMode 13 = .ok (.getfield 49, 3) := by decide +kernel
theorem dX5_setMode_16 : decode cX5_setMode 16 = .ok (.iconst 3, 1) := by decide +kernel
theorem dX5_setMode_17 : decode cX5_setMode 17 = .ok (.if_icmp .ne 7, 3) := by decide +kernel
theorem dX5_setMode_20 : decode cX5_setMode 20 = .ok (.iload_n 2, 1) := by decide +kernel
theorem dX5_setMode_21 : decode cX5_setMode 21 = .ok (.ifCond .ne 7, 3) := by decide +kernel
theorem dX5_setMode_24 : decode cX5_setMode 24 = .ok (.iconst 1, 1) := by decide +kernel
theorem dX5_setMode_25 : decode cX5_setMode 25 = .ok (.goto 4, 3) := by decide +kernel
theorem dX5_setMode_28 : decode cX5_setMode 28 = .ok (.iconst 0, 1) := by decide +kernel
theorem dX5_setMode_29 : decode cX5_setMode 29 = .ok (.invokestatic 52, 3) := by decide +kernel
theorem dX5_setMode_32 : decode cX5_setMode 32 = .ok (.iload_n 2, 1) := by decide +kernel
theorem dX5_setMode_33 : decode cX5_setMode 33 = .ok (.iconst 2, 1) := by decide +kernel
theorem dX5_setMode_34 : decode cX5_setMode 34 = .ok (.if_icmp .ne 10, 3) := by decide +kernel
theorem dX5_setMode_37 : decode cX5_setMode 37 = .ok (.aload_n 3, 1) := by decide +kernel
theorem dX5_setMode_38 : decode cX5_setMode 38 = .ok (.getfield 115, 3) := by decide +kernel
theorem dX5_setMode_41 : decode cX5_setMode 41 = .ok (.ifCond .eq 7, 3) := by decide +kernel
theorem dX5_setMode_44 : decode cX5_setMode 44 = .ok (.iconst 1, 1) := by decide +kernel
theorem dX5_setMode_45 : decode cX5_setMode 45 = .ok (.goto 4, 3) := by decide +kernel
theorem dX5_setMode_48 : decode cX5_setMode 48 = .ok (.iconst 0, 1) := by decide +kernel
theorem dX5_setMode_49 : decode cX5_setMode 49 = .ok (.invokestatic 52, 3) := by decide +kernel
theorem dX5_setMode_52 : decode cX5_setMode 52 = .ok (.aload_n 3, 1) := by decide +kernel
theorem dX5_setMode_53 : decode cX5_setMode 53 = .ok (.getfield 49, 3) := by decide +kernel
theorem dX5_setMode_56 : decode cX5_setMode 56 = .ok (.istore 4, 2) := by decide +kernel
theorem dX5_setMode_58 : decode cX5_setMode 58 = .ok (.aload_n 3, 1) := by decide +kernel
theorem dX5_setMode_59 : decode cX5_setMode 59 = .ok (.iload_n 2, 1) := by decide +kernel
theorem dX5_setMode_60 : decode cX5_setMode 60 = .ok (.invokevirtual 118, 3) := by decide +kernel
theorem dX5_setMode_63 : decode cX5_setMode 63 = .ok (.iload 4, 2) := by decide +kernel
theorem dX5_setMode_65 : decode cX5_setMode 65 = .ok (.ireturn, 1) := by decide +kernel
theorem dX5_run_0 : decode cX5_run 0 = .ok (.iload_n 1, 1) := by decide +kernel
theorem dX5_run_1 : decode cX5_run 1 = .ok (.iconst 1, 1) := by decide +kernel
theorem dX5_run_2 : decode cX5_run 2 = .ok (.sipush 200, 3) := by decide +kernel
theorem dX5_run_5 : decode cX5_run 5 = .ok (.invokestatic 24, 3) := by decide +kernel
theorem dX5_run_8 : decode cX5_run 8 = .ok (.iconst 0, 1) := by decide +kernel
theorem dX5_run_9 : decode cX5_run 9 = .ok (.istore_n 2, 1) := by decide +kernel
theorem dX5_run_10 : decode cX5_run 10 = .ok (.iload_n 2, 1) := by decide +kernel
theorem dX5_run_11 : decode cX5_run 11 = .ok (.iload_n 1, 1) := by decide +kernel
theorem dX5_run_12 : decode cX5_run 12 = .ok (.if_icmp .ge 13, 3) := by decide +kernel
theorem dX5_run_15 : decode cX5_run 15 = .ok (.aload_n 0, 1) := by decide +kernel
theorem dX5_run_16 : decode cX5_run 16 = .ok (.invokevirtual 122, 3) := by decide +kernel
theorem dX5_run_19 : decode cX5_run 19 = .ok (.iinc 2 1, 3) := by decide +kernel
theorem dX5_run_22 : decode cX5_run 22 = .ok (.goto (-12), 3) := by decide +kernel
theorem dX5_run_25 : decode cX5_run 25 = .ok (.aload_n 0, 1) := by decide +kernel
theorem dX5_run_26 : decode cX5_run 26 = .ok (.dup, 1) := by decide +kernel
theorem dX5_run_27 : decode cX5_run 27 = .ok (.getfield 125, 3) := by decide +kernel
theorem dX5_run_30 : decode cX5_run 30 = .ok (.iload_n 1, 1) := by decide +kernel
theorem dX5_run_31 : decode cX5_run 31 = .ok (.iadd, 1) := by decide +kernel
theorem dX5_run_32 : decode cX5_run 32 = .ok (.putfield 125, 3) := by decide +kernel
theorem dX5_run_35 : decode cX5_run 35 = .ok (.aload_n 0, 1) := by decide +kernel
theorem dX5_run_36 : decode cX5_run 36 = .ok (.getfield 125, 3) := by decide +kernel
theorem dX5_run_39 : decode cX5_run 39 = .ok (.ireturn, 1) := by decide +kernel
theorem dX5_measure_0 : decode cX5_measure 0 = .ok (.aload_n 0, 1) := by decide +kernel
theorem dX5_measure_1 : decode cX5_measure 1 = .ok (.iload_n 1, 1) := by decide +kernel
theorem dX5_measure_2 : decode cX5_measure 2 = .ok (.invokevirtual 16, 3) := by decide +kernel
theorem dX5_measure_5 : decode cX5_measure 5 = .ok (.getfield 20, 3) := by decide +kernel
theorem dX5_measure_8 : decode cX5_measure 8 = .ok (.getfield 128, 3) := by decide +kernel
theorem dX5_measure_11 : decode cX5_measure 11 = .ok (.lreturn, 1) := by decide +kernel
theorem dX5_output_0 : decode cX5_output 0 = .ok (.aload_n 0, 1) := by decide +kernel
theorem dX5_output_1 : decode cX5_output 1 = .ok (.iload_n 1, 1) := by decide +kernel
theorem dX5_output_2 : decode cX5_output 2 = .ok (.invokevirtual 16, 3) := by decide +kernel
theorem dX5_output_5 : decode cX5_output 5 = .ok (.getfield 131, 3) := by decide +kernel
theorem dX5_output_8 : decode cX5_output 8 = .ok (.lreturn, 1) := by decide +kernel
theorem dX5_outputByIncrements_0 : decode cX5_outputByIncrements 0 = .ok (.aload_n 0, 1) := by decide +kernel
theorem dX5_outputByIncrements_1 : decode cX5_outputByIncrements 1 = .ok (.iload_n 1, 1) := by decide +kernel
theorem dX5_outputByIncrements_2 : decode cX5_outputByIncrements 2 = .ok (.invokevirtual 16, 3) := by decide +kernel
theorem dX5_outputByIncrements_5 : decode cX5_outputByIncrements 5 = .ok (.getfield 56, 3) := by decide +kernel
theorem dX5_outputByIncrements_8 : decode cX5_outputByIncrements 8 = .ok (.getfield 134, 3) := by decide +kernel
theorem dX5_outputByIncrements_11 : decode cX5_outputByIncrements 11 = .ok (.ldc2_w 137, 3) := by decide +kernel
theorem dX5_outputByIncrements_14 : decode cX5_outputByIncrements 14 = .ok (.invokestatic 139, 3) := by decide +kernel
theorem dX5_outputByIncrements_17 : decode cX5_outputByIncrements 17 = .ok (.lreturn, 1) := by decide +kernel
theorem dX5_setpoint_0 : decode cX5_setpoint 0 = .ok (.aload_n 0, 1) := by decide +kernel
theorem dX5_setpoint_1 : decode cX5_setpoint 1 = .ok (.iload_n 1, 1) := by decide +kernel
theorem dX5_setpoint_2 : decode cX5_setpoint 2 = .ok (.invokevirtual 16, 3) := by decide +kernel
theorem dX5_setpoint_5 : decode cX5_setpoint 5 = .ok (.getfield 56, 3) := by decide +kernel
theorem dX5_setpoint_8 : decode cX5_setpoint 8 = .ok (.getfield 104, 3) := by decide +kernel
theorem dX5_setpoint_11 : decode cX5_setpoint 11 = .ok (.lreturn, 1) := by decide +kernel
theorem dX5_integral_0 : decode cX5_integral 0 = .ok (.aload_n 0, 1) := by decide +kernel
theorem dX5_integral_1 : decode cX5_integral 1 = .ok (.iload_n 1, 1) := by decide +kernel
theorem dX5_integral_2 : decode cX5_integral 2 = .ok (.invokevirtual 16, 3) := by decide +kernel
theorem dX5_integral_5 : decode cX5_integral 5 = .ok (.getfield 56, 3) := by decide +kernel
theorem dX5_integral_8 : decode cX5_integral 8 = .ok (.getfield 145, 3) := by decide +kernel
theorem dX5_integral_11 : decode cX5_integral 11 = .ok (.lreturn, 1) := by decide +kernel
theorem dX5_gain_0 : decode cX5_gain 0 = .ok (.aload_n 0, 1) := by decide +kernel
theorem dX5_gain_1 : decode cX5_gain 1 = .ok (.iload_n 1, 1) := by decide +kernel
theorem dX5_gain_2 : decode cX5_gain 2 = .ok (.invokevirtual 16, 3) := by decide +kernel
theorem dX5_gain_5 : decode cX5_gain 5 = .ok (.getfield 56, 3) := by decide +kernel
theorem dX5_gain_8 : decode cX5_gain 8 = .ok (.astore_n 3, 1) := by decide +kernel
theorem dX5_gain_9 : decode cX5_gain 9 = .ok (.iload_n 2, 1) := by decide +kernel
theorem dX5_gain_10 : decode cX5_gain 10 = .ok (.invokestatic 148, 3) := by decide +kernel
theorem dX5_gain_13 : decode cX5_gain 13 = .ok (.iload_n 2, 1) := by decide +kernel
theorem dX5_gain_14 : decode cX5_gain 14 = .ok (.ifCond .ne 8, 3) := by decide +kernel
theorem dX5_gain_17 : decode cX5_gain 17 = .ok (.aload_n 3, 1) := by decide +kernel
theorem dX5_gain_18 : decode cX5_gain 18 = .ok (.getfield 151, 3) := by decide +kernel
theorem dX5_gain_21 : decode cX5_gain 21 = .ok (.ireturn, 1) := by decide +kernel
theorem dX5_gain_22 : decode cX5_gain 22 = .ok (.iload_n 2, 1) := by decide +kernel
theorem dX5_gain_23 : decode cX5_gain 23 = .ok (.iconst 1, 1) := by decide +kernel
theorem dX5_gain_24 : decode cX5_gain 24 = .ok (.if_icmp .ne 10, 3) := by decide +kernel
theorem dX5_gain_27 : decode cX5_gain 27 = .ok (.aload_n 3, 1) := by decide +kernel
theorem dX5_gain_28 : decode cX5_gain 28 = .ok (.getfield 154, 3) := by decide +kernel
theorem dX5_gain_31 : decode cX5_gain 31 = .ok (.goto 7, 3) := by decide +kernel
theorem dX5_gain_34 : decode cX5_gain 34 = .ok (.aload_n 3, 1) := by decide +kernel
theorem dX5_gain_35 : decode cX5_gain 35 = .ok (.getfield 157, 3) := by decide +kernel
theorem dX5_gain_38 : decode cX5_gain 38 = .ok (.ireturn, 1) := by decide +kernel
theorem dX5_mode_0 : decode cX5_mode 0 = .ok (.aload_n 0, 1) := by decide +kernel
theorem dX5_mode_1 : decode cX5_mode 1 = .ok (.iload_n 1, 1) := by decide +kernel
theorem dX5_mode_2 : decode cX5_mode 2 = .ok (.invokevirtual 16, 3) := by decide +kernel
theorem dX5_mode_5 : decode cX5_mode 5 = .ok (.getfield 49, 3) := by decide +kernel
theorem dX5_mode_8 : decode cX5_mode 8 = .ok (.ireturn, 1) := by decide +kernel
theorem dX5_wasStarved_0 : decode cX5_wasStarved 0 = .ok (.aload_n 0, 1) := by decide +kernel
theorem dX5_wasStarved_1 : decode cX5_wasStarved 1 = .ok (.iload_n 1, 1) := by decide +kernel
theorem dX5_wasStarved_2 : decode cX5_wasStarved 2 = .ok (.invokevirtual 16, 3) := by decide +kernel
theorem dX5_wasStarved_5 : decode cX5_wasStarved 5 = .ok (.getfield 160, 3) := by decide +kernel
theorem dX5_wasStarved_8 : decode cX5_wasStarved 8 = .ok (.ireturn, 1) := by decide +kernel
theorem dX5_held_0 : decode cX5_held 0 = .ok (.aload_n 0, 1) := by decide +kernel
theorem dX5_held_1 : decode cX5_held 1 = .ok (.iload_n 1, 1) := by decide +kernel
theorem dX5_held_2 : decode cX5_held 2 = .ok (.invokevirtual 16, 3) := by decide +kernel
theorem dX5_held_5 : decode cX5_held 5 = .ok (.getfield 56, 3) := by decide +kernel
theorem dX5_held_8 : decode cX5_held 8 = .ok (.getfield 163, 3) := by decide +kernel
theorem dX5_held_11 : decode cX5_held 11 = .ok (.ireturn, 1) := by decide +kernel
theorem dX5_startRelay_0 : decode cX5_startRelay 0 = .ok (.aload_n 0, 1) := by decide +kernel
theorem dX5_startRelay_1 : decode cX5_startRelay 1 = .ok (.iload_n 1, 1) := by decide +kernel
theorem dX5_startRelay_2 : decode cX5_startRelay 2 = .ok (.invokevirtual 16, 3) := by decide +kernel
theorem dX5_startRelay_5 : decode cX5_startRelay 5 = .ok (.astore 4, 2) := by decide +kernel
theorem dX5_startRelay_7 : decode cX5_startRelay 7 = .ok (.iload_n 2, 1) := by decide +kernel
theorem dX5_startRelay_8 : decode cX5_startRelay 8 = .ok (.iconst 1, 1) := by decide +kernel
theorem dX5_startRelay_9 : decode cX5_startRelay 9 = .ok (.ldc 166, 2) := by decide +kernel
theorem dX5_startRelay_11 : decode cX5_startRelay 11 = .ok (.invokestatic 24, 3) := by decide +kernel
theorem dX5_startRelay_14 : decode cX5_startRelay 14 = .ok (.iload_n 3, 1) := by decide +kernel
theorem dX5_startRelay_15 : decode cX5_startRelay 15 = .ok (.iconst 0, 1) := by decide +kernel
theorem dX5_startRelay_16 : decode cX5_startRelay 16 = .ok (.ldc 166, 2) := by decide +kernel
theorem dX5_startRelay_18 : decode cX5_startRelay 18 = .ok (.invokestatic 24, 3) := by decide +kernel
theorem dX5_startRelay_21 : decode cX5_startRelay 21 = .ok (.aload 4, 2) := by decide +kernel
theorem dX5_startRelay_23 : decode cX5_startRelay 23 = .ok (.getfield 49, 3) := by decide +kernel
theorem dX5_startRelay_26 : decode cX5_startRelay 26 = .ok (.iconst 1, 1) := by decide +kernel
theorem dX5_startRelay_27 : decode cX5_startRelay 27 = .ok (.if_icmp .ne 7, 3) := by decide +kernel
theorem dX5_startRelay_30 : decode cX5_startRelay 30 = .ok (.iconst 1, 1) := by decide +kernel
theorem dX5_startRelay_31 : decode cX5_startRelay 31 = .ok (.goto 4, 3) := by decide +kernel
theorem dX5_startRelay_34 : decode cX5_startRelay 34 = .ok (.iconst 0, 1) := by decide +kernel
theorem dX5_startRelay_35 : decode cX5_startRelay 35 = .ok (.invokestatic 52, 3) := by decide +kernel
theorem dX5_startRelay_38 : decode cX5_startRelay 38 = .ok (.aload 4, 2) := by decide +kernel
theorem dX5_startRelay_40 : decode cX5_startRelay 40 = .ok (.getfield 167, 3) := by decide +kernel
theorem dX5_startRelay_43 : decode cX5_startRelay 43 = .ok (.aload 4, 2) := by decide +kernel
theorem dX5_startRelay_45 : decode cX5_startRelay 45 = .ok (.getfield 131, 3) := by decide +kernel
theorem dX5_startRelay_48 : decode cX5_startRelay 48 = .ok (.iload_n 2, 1) := by decide +kernel
theorem dX5_startRelay_49 : decode cX5_startRelay 49 = .ok (.iload_n 3, 1) := by decide +kernel
theorem dX5_startRelay_50 : decode cX5_startRelay 50 = .ok (.invokevirtual 171, 3) := by decide +kernel
theorem dX5_startRelay_53 : decode cX5_startRelay 53 = .ok (.aload 4, 2) := by decide +kernel
theorem dX5_startRelay_55 : decode cX5_startRelay 55 = .ok (.iconst 3, 1) := by decide +kernel
theorem dX5_startRelay_56 : decode cX5_startRelay 56 = .ok (.putfield 49, 3) := by decide +kernel
theorem dX5_startRelay_59 : decode cX5_startRelay 59 = .ok (.return_, 1) := by decide +kernel
theorem dX5_experiment_0 : decode cX5_experiment 0 = .ok (.aload_n 0, 1) := by decide +kernel
theorem dX5_experiment_1 : decode cX5_experiment 1 = .ok (.iload_n 1, 1) := by decide +kernel
theorem dX5_experiment_2 : decode cX5_experiment 2 = .ok (.invokevirtual 16, 3) := by decide +kernel
theorem dX5_experiment_5 : decode cX5_experiment 5 = .ok (.getfield 167, 3) := by decide +kernel
theorem dX5_experiment_8 : decode cX5_experiment 8 = .ok (.getfield 177, 3) := by decide +kernel
theorem dX5_experiment_11 : decode cX5_experiment 11 = .ok (.ireturn, 1) := by decide +kernel
theorem dX5_period_0 : decode cX5_period 0 = .ok (.aload_n 0, 1) := by decide +kernel
theorem dX5_period_1 : decode cX5_period 1 = .ok (.iload_n 1, 1) := by decide +kernel
theorem dX5_period_2 : decode cX5_period 2 = .ok (.invokevirtual 16, 3) := by decide +kernel
theorem dX5_period_5 : decode cX5_period 5 = .ok (.getfield 167, 3) := by decide +kernel
theorem dX5_period_8 : decode cX5_period 8 = .ok (.astore_n 2, 1) := by decide +kernel
theorem dX5_period_9 : decode cX5_period 9 = .ok (.aload_n 2, 1) := by decide +kernel
theorem dX5_period_10 : decode cX5_period 10 = .ok (.getfield 177, 3) := by decide +kernel
theorem dX5_period_13 : decode cX5_period 13 = .ok (.iconst 2, 1) := by decide +kernel
theorem dX5_period_14 : decode cX5_period 14 = .ok (.if_icmp .ne 7, 3) := by decide +kernel
theorem dX5_period_17 : decode cX5_period 17 = .ok (.iconst 1, 1) := by decide +kernel
theorem dX5_period_18 : decode cX5_period 18 = .ok (.goto 4, 3) := by decide +kernel
theorem dX5_period_21 : decode cX5_period 21 = .ok (.iconst 0, 1) := by decide +kernel
theorem dX5_period_22 : decode cX5_period 22 = .ok (.invokestatic 52, 3) := by decide +kernel
theorem dX5_period_25 : decode cX5_period 25 = .ok (.aload_n 2, 1) := by decide +kernel
theorem dX5_period_26 : decode cX5_period 26 = .ok (.getfield 180, 3) := by decide +kernel
theorem dX5_period_29 : decode cX5_period 29 = .ok (.ireturn, 1) := by decide +kernel
theorem dX5_swing_0 : decode cX5_swing 0 = .ok (.aload_n 0, 1) := by decide +kernel
theorem dX5_swing_1 : decode cX5_swing 1 = .ok (.iload_n 1, 1) := by decide +kernel
theorem dX5_swing_2 : decode cX5_swing 2 = .ok (.invokevirtual 16, 3) := by decide +kernel
theorem dX5_swing_5 : decode cX5_swing 5 = .ok (.getfield 167, 3) := by decide +kernel
theorem dX5_swing_8 : decode cX5_swing 8 = .ok (.astore_n 2, 1) := by decide +kernel
theorem dX5_swing_9 : decode cX5_swing 9 = .ok (.aload_n 2, 1) := by decide +kernel
theorem dX5_swing_10 : decode cX5_swing 10 = .ok (.getfield 177, 3) := by decide +kernel
theorem dX5_swing_13 : decode cX5_swing 13 = .ok (.iconst 2, 1) := by decide +kernel
theorem dX5_swing_14 : decode cX5_swing 14 = .ok (.if_icmp .ne 7, 3) := by decide +kernel
theorem dX5_swing_17 : decode cX5_swing 17 = .ok (.iconst 1, 1) := by decide +kernel
theorem dX5_swing_18 : decode cX5_swing 18 = .ok (.goto 4, 3) := by decide +kernel
theorem dX5_swing_21 : decode cX5_swing 21 = .ok (.iconst 0, 1) := by decide +kernel
theorem dX5_swing_22 : decode cX5_swing 22 = .ok (.invokestatic 52, 3) := by decide +kernel
theorem dX5_swing_25 : decode cX5_swing 25 = .ok (.aload_n 2, 1) := by decide +kernel
theorem dX5_swing_26 : decode cX5_swing 26 = .ok (.getfield 183, 3) := by decide +kernel
theorem dX5_swing_29 : decode cX5_swing 29 = .ok (.lreturn, 1) := by decide +kernel
theorem dX5_ultimateGain_0 : decode cX5_ultimateGain 0 = .ok (.aload_n 0, 1) := by decide +kernel
theorem dX5_ultimateGain_1 : decode cX5_ultimateGain 1 = .ok (.iload_n 1, 1) := by decide +kernel
theorem dX5_ultimateGain_2 : decode cX5_ultimateGain 2 = .ok (.invokevirtual 16, 3) := by decide +kernel
theorem dX5_ultimateGain_5 : decode cX5_ultimateGain 5 = .ok (.getfield 167, 3) := by decide +kernel
theorem dX5_ultimateGain_8 : decode cX5_ultimateGain 8 = .ok (.astore_n 2, 1) := by decide +kernel
theorem dX5_ultimateGain_9 : decode cX5_ultimateGain 9 = .ok (.aload_n 2, 1) := by decide +kernel
theorem dX5_ultimateGain_10 : decode cX5_ultimateGain 10 = .ok (.getfield 177, 3) := by decide +kernel
theorem dX5_ultimateGain_13 : decode cX5_ultimateGain 13 = .ok (.iconst 2, 1) := by decide +kernel
theorem dX5_ultimateGain_14 : decode cX5_ultimateGain 14 = .ok (.if_icmp .ne 16, 3) := by decide +kernel
theorem dX5_ultimateGain_17 : decode cX5_ultimateGain 17 = .ok (.aload_n 2, 1) := by decide +kernel
theorem dX5_ultimateGain_18 : decode cX5_ultimateGain 18 = .ok (.getfield 183, 3) := by decide +kernel
theorem dX5_ultimateGain_21 : decode cX5_ultimateGain 21 = .ok (.lconst 0, 1) := by decide +kernel
theorem dX5_ultimateGain_22 : decode cX5_ultimateGain 22 = .ok (.lcmp, 1) := by decide +kernel
theorem dX5_ultimateGain_23 : decode cX5_ultimateGain 23 = .ok (.ifCond .le 7, 3) := by decide +kernel
theorem dX5_ultimateGain_26 : decode cX5_ultimateGain 26 = .ok (.iconst 1, 1) := by decide +kernel
theorem dX5_ultimateGain_27 : decode cX5_ultimateGain 27 = .ok (.goto 4, 3) := by decide +kernel
theorem dX5_ultimateGain_30 : decode cX5_ultimateGain 30 = .ok (.iconst 0, 1) := by decide +kernel
theorem dX5_ultimateGain_31 : decode cX5_ultimateGain 31 = .ok (.invokestatic 52, 3) := by decide +kernel
theorem dX5_ultimateGain_34 : decode cX5_ultimateGain 34 = .ok (.aload_n 2, 1) := by decide +kernel
theorem dX5_ultimateGain_35 : decode cX5_ultimateGain 35 = .ok (.invokevirtual 186, 3) := by decide +kernel
theorem dX5_ultimateGain_38 : decode cX5_ultimateGain 38 = .ok (.l2i, 1) := by decide +kernel
theorem dX5_ultimateGain_39 : decode cX5_ultimateGain 39 = .ok (.ireturn, 1) := by decide +kernel
theorem dX5_proposed_0 : decode cX5_proposed 0 = .ok (.aload_n 0, 1) := by decide +kernel
theorem dX5_proposed_1 : decode cX5_proposed 1 = .ok (.iload_n 1, 1) := by decide +kernel
theorem dX5_proposed_2 : decode cX5_proposed 2 = .ok (.invokevirtual 16, 3) := by decide +kernel
theorem dX5_proposed_5 : decode cX5_proposed 5 = .ok (.getfield 167, 3) := by decide +kernel
theorem dX5_proposed_8 : decode cX5_proposed 8 = .ok (.astore 4, 2) := by decide +kernel
theorem dX5_proposed_10 : decode cX5_proposed 10 = .ok (.iload_n 3, 1) := by decide +kernel
theorem dX5_proposed_11 : decode cX5_proposed 11 = .ok (.invokestatic 148, 3) := by decide +kernel
theorem dX5_proposed_14 : decode cX5_proposed 14 = .ok (.iload_n 2, 1) := by decide +kernel
theorem dX5_proposed_15 : decode cX5_proposed 15 = .ok (.iconst 0, 1) := by decide +kernel
theorem dX5_proposed_16 : decode cX5_proposed 16 = .ok (.iconst 1, 1) := by decide +kernel
theorem dX5_proposed_17 : decode cX5_proposed 17 = .ok (.invokestatic 24, 3) := by decide +kernel
theorem dX5_proposed_20 : decode cX5_proposed 20 = .ok (.aload 4, 2) := by decide +kernel
theorem dX5_proposed_22 : decode cX5_proposed 22 = .ok (.getfield 177, 3) := by decide +kernel
theorem dX5_proposed_25 : decode cX5_proposed 25 = .ok (.iconst 2, 1) := by decide +kernel
theorem dX5_proposed_26 : decode cX5_proposed 26 = .ok (.if_icmp .ne 25, 3) := by decide +kernel
theorem dX5_proposed_29 : decode cX5_proposed 29 = .ok (.aload 4, 2) := by decide +kernel
theorem dX5_proposed_31 : decode cX5_proposed 31 = .ok (.getfield 183, 3) := by decide +kernel
theorem dX5_proposed_34 : decode cX5_proposed 34 = .ok (.lconst 0, 1) := by decide +kernel
theorem dX5_proposed_35 : decode cX5_proposed 35 = .ok (.lcmp, 1) := by decide +kernel
theorem dX5_proposed_36 : decode cX5_proposed 36 = .ok (.ifCond .le 15, 3) := by decide +kernel
theorem dX5_proposed_39 : decode cX5_proposed 39 = .ok (.aload 4, 2) := by decide +kernel
theorem dX5_proposed_41 : decode cX5_proposed 41 = .ok (.getfield 180, 3) := by decide +kernel
theorem dX5_proposed_44 : decode cX5_proposed 44 = .ok (.ifCond .le 7, 3) := by decide +kernel
theorem dX5_proposed_47 : decode cX5_proposed 47 = .ok (.iconst 1, 1) := by decide +kernel
theorem dX5_proposed_48 : decode cX5_proposed 48 = .ok (.goto 4, 3) := by decide +kernel
theorem dX5_proposed_51 : decode cX5_proposed 51 = .ok (.iconst 0, 1) := by decide +kernel
theorem dX5_proposed_52 : decode cX5_proposed 52 = .ok (.invokestatic 52, 3) := by decide +kernel
theorem dX5_proposed_55 : decode cX5_proposed 55 = .ok (.iload_n 3, 1) := by decide +kernel
theorem dX5_proposed_56 : decode cX5_proposed 56 = .ok (.ifCond .ne 17, 3) := by decide +kernel
theorem dX5_proposed_59 : decode cX5_proposed 59 = .ok (.aload 4, 2) := by decide +kernel
theorem dX5_proposed_61 : decode cX5_proposed 61 = .ok (.iload_n 2, 1) := by decide +kernel
theorem dX5_proposed_62 : decode cX5_proposed 62 = .ok (.invokevirtual 190, 3) := by decide +kernel
theorem dX5_proposed_65 : decode cX5_proposed 65 = .ok (.ldc2_w 194, 3) := by decide +kernel
theorem dX5_proposed_68 : decode cX5_proposed 68 = .ok (.invokestatic 196, 3) := by decide +kernel
theorem dX5_proposed_71 : decode cX5_proposed 71 = .ok (.l2i, 1) := by decide +kernel
theorem dX5_proposed_72 : decode cX5_proposed 72 = .ok (.ireturn, 1) := by decide +kernel
theorem dX5_proposed_73 : decode cX5_proposed 73 = .ok (.iload_n 3, 1) := by decide +kernel
theorem dX5_proposed_74 : decode cX5_proposed 74 = .ok (.iconst 1, 1) := by decide +kernel
theorem dX5_proposed_75 : decode cX5_proposed 75 = .ok (.if_icmp .ne 17, 3) := by decide +kernel
theorem dX5_proposed_78 : decode cX5_proposed 78 = .ok (.aload 4, 2) := by decide +kernel
theorem dX5_proposed_80 : decode cX5_proposed 80 = .ok (.iload_n 2, 1) := by decide +kernel
theorem dX5_proposed_81 : decode cX5_proposed 81 = .ok (.invokevirtual 199, 3) := by decide +kernel
theorem dX5_proposed_84 : decode cX5_proposed 84 = .ok (.ldc2_w 202, 3) := by decide +kernel
theorem dX5_proposed_87 : decode cX5_proposed 87 = .ok (.invokestatic 196, 3) := by decide +kernel
theorem dX5_proposed_90 : decode cX5_proposed 90 = .ok (.l2i, 1) := by decide +kernel
theorem dX5_proposed_91 : decode cX5_proposed 91 = .ok (.ireturn, 1) := by decide +kernel
theorem dX5_proposed_92 : decode cX5_proposed 92 = .ok (.aload 4, 2) := by decide +kernel
theorem dX5_proposed_94 : decode cX5_proposed 94 = .ok (.iload_n 2, 1) := by decide +kernel
theorem dX5_proposed_95 : decode cX5_proposed 95 = .ok (.invokevirtual 204, 3) := by decide +kernel
theorem dX5_proposed_98 : decode cX5_proposed 98 = .ok (.ldc2_w 207, 3) := by decide +kernel
theorem dX5_proposed_101 : decode cX5_proposed 101 = .ok (.invokestatic 196, 3) := by decide +kernel
theorem dX5_proposed_104 : decode cX5_proposed 104 = .ok (.l2i, 1) := by decide +kernel
theorem dX5_proposed_105 : decode cX5_proposed 105 = .ok (.ireturn, 1) := by decide +kernel
theorem dX5_loopAt_0 : decode cX5_loopAt 0 = .ok (.iload_n 1, 1) := by decide +kernel
theorem dX5_loopAt_1 : decode cX5_loopAt 1 = .ok (.ifCond .lt 12, 3) := by decide +kernel
theorem dX5_loopAt_4 : decode cX5_loopAt 4 = .ok (.iload_n 1, 1) := by decide +kernel
theorem dX5_loopAt_5 : decode cX5_loopAt 5 = .ok (.aload_n 0, 1) := by decide +kernel
theorem dX5_loopAt_6 : decode cX5_loopAt 6 = .ok (.getfield 11, 3) := by decide +kernel
theorem dX5_loopAt_9 : decode cX5_loopAt 9 = .ok (.arraylength, 1) := by decide +kernel
theorem dX5_loopAt_10 : decode cX5_loopAt 10 = .ok (.if_icmp .lt 13, 3) := by decide +kernel
theorem dX5_loopAt_13 : decode cX5_loopAt 13 = .ok (.new 209, 3) := by decide +kernel
theorem dX5_loopAt_16 : decode cX5_loopAt 16 = .ok (.dup, 1) := by decide +kernel
theorem dX5_loopAt_17 : decode cX5_loopAt 17 = .ok (.ldc 211, 2) := by decide +kernel
theorem dX5_loopAt_19 : decode cX5_loopAt 19 = .ok (.invokespecial 213, 3) := by decide +kernel
theorem dX5_loopAt_22 : decode cX5_loopAt 22 = .ok (.athrow, 1) := by decide +kernel
theorem dX5_loopAt_23 : decode cX5_loopAt 23 = .ok (.aload_n 0, 1) := by decide +kernel
theorem dX5_loopAt_24 : decode cX5_loopAt 24 = .ok (.getfield 11, 3) := by decide +kernel
theorem dX5_loopAt_27 : decode cX5_loopAt 27 = .ok (.iload_n 1, 1) := by decide +kernel
theorem dX5_loopAt_28 : decode cX5_loopAt 28 = .ok (.aaload, 1) := by decide +kernel
theorem dX5_loopAt_29 : decode cX5_loopAt 29 = .ok (.areturn, 1) := by decide +kernel
theorem dX5_requireGainNumber_0 : decode cX5_requireGainNumber 0 = .ok (.iload_n 0, 1) := by decide +kernel
theorem dX5_requireGainNumber_1 : decode cX5_requireGainNumber 1 = .ok (.ifCond .lt 8, 3) := by decide +kernel
theorem dX5_requireGainNumber_4 : decode cX5_requireGainNumber 4 = .ok (.iload_n 0, 1) := by decide +kernel
theorem dX5_requireGainNumber_5 : decode cX5_requireGainNumber 5 = .ok (.iconst 2, 1) := by decide +kernel
theorem dX5_requireGainNumber_6 : decode cX5_requireGainNumber 6 = .ok (.if_icmp .le 13, 3) := by decide +kernel
theorem dX5_requireGainNumber_9 : decode cX5_requireGainNumber 9 = .ok (.new 209, 3) := by decide +kernel
theorem dX5_requireGainNumber_12 : decode cX5_requireGainNumber 12 = .ok (.dup, 1) := by decide +kernel
theorem dX5_requireGainNumber_13 : decode cX5_requireGainNumber 13 = .ok (.ldc 216, 2) := by decide +kernel
theorem dX5_requireGainNumber_15 : decode cX5_requireGainNumber 15 = .ok (.invokespecial 213, 3) := by decide +kernel
theorem dX5_requireGainNumber_18 : decode cX5_requireGainNumber 18 = .ok (.athrow, 1) := by decide +kernel
theorem dX5_requireGainNumber_19 : decode cX5_requireGainNumber 19 = .ok (.return_, 1) := by decide +kernel
theorem dX5_requireGains_0 : decode cX5_requireGains 0 = .ok (.iload_n 0, 1) := by decide +kernel
theorem dX5_requireGains_1 : decode cX5_requireGains 1 = .ok (.sipush (-20000), 3) := by decide +kernel
theorem dX5_requireGains_4 : decode cX5_requireGains 4 = .ok (.sipush 20000, 3) := by decide +kernel
theorem dX5_requireGains_7 : decode cX5_requireGains 7 = .ok (.invokestatic 24, 3) := by decide +kernel
theorem dX5_requireGains_10 : decode cX5_requireGains 10 = .ok (.iload_n 1, 1) := by decide +kernel
theorem dX5_requireGains_11 : decode cX5_requireGains 11 = .ok (.sipush (-5000), 3) := by decide +kernel
theorem dX5_requireGains_14 : decode cX5_requireGains 14 = .ok (.sipush 5000, 3) := by decide +kernel
theorem dX5_requireGains_17 : decode cX5_requireGains 17 = .ok (.invokestatic 24, 3) := by decide +kernel
theorem dX5_requireGains_20 : decode cX5_requireGains 20 = .ok (.iload_n 2, 1) := by decide +kernel
theorem dX5_requireGains_21 : decode cX5_requireGains 21 = .ok (.ldc 218, 2) := by decide +kernel
theorem dX5_requireGains_23 : decode cX5_requireGains 23 = .ok (.ldc 219, 2) := by decide +kernel
theorem dX5_requireGains_25 : decode cX5_requireGains 25 = .ok (.invokestatic 24, 3) := by decide +kernel
theorem dX5_requireGains_28 : decode cX5_requireGains 28 = .ok (.return_, 1) := by decide +kernel
theorem dX5_requireWithin_0 : decode cX5_requireWithin 0 = .ok (.iload_n 0, 1) := by decide +kernel
theorem dX5_requireWithin_1 : decode cX5_requireWithin 1 = .ok (.iload_n 1, 1) := by decide +kernel
theorem dX5_requireWithin_2 : decode cX5_requireWithin 2 = .ok (.if_icmp .lt 12, 3) := by decide +kernel
theorem dX5_requireWithin_5 : decode cX5_requireWithin 5 = .ok (.iload_n 0, 1) := by decide +kernel
theorem dX5_requireWithin_6 : decode cX5_requireWithin 6 = .ok (.iload_n 2, 1) := by decide +kernel
theorem dX5_requireWithin_7 : decode cX5_requireWithin 7 = .ok (.if_icmp .gt 7, 3) := by decide +kernel
theorem dX5_requireWithin_10 : decode cX5_requireWithin 10 = .ok (.iconst 1, 1) := by decide +kernel
theorem dX5_requireWithin_11 : decode cX5_requireWithin 11 = .ok (.goto 4, 3) := by decide +kernel
theorem dX5_requireWithin_14 : decode cX5_requireWithin 14 = .ok (.iconst 0, 1) := by decide +kernel
theorem dX5_requireWithin_15 : decode cX5_requireWithin 15 = .ok (.invokestatic 81, 3) := by decide +kernel
theorem dX5_requireWithin_18 : decode cX5_requireWithin 18 = .ok (.return_, 1) := by decide +kernel
theorem dX5_requireArgument_0 : decode cX5_requireArgument 0 = .ok (.iload_n 0, 1) := by decide +kernel
theorem dX5_requireArgument_1 : decode cX5_requireArgument 1 = .ok (.ifCond .ne 13, 3) := by decide +kernel
theorem dX5_requireArgument_4 : decode cX5_requireArgument 4 = .ok (.new 220, 3) := by decide +kernel
theorem dX5_requireArgument_7 : decode cX5_requireArgument 7 = .ok (.dup, 1) := by decide +kernel
theorem dX5_requireArgument_8 : decode cX5_requireArgument 8 = .ok (.ldc 222, 2) := by decide +kernel
theorem dX5_requireArgument_10 : decode cX5_requireArgument 10 = .ok (.invokespecial 224, 3) := by decide +kernel
theorem dX5_requireArgument_13 : decode cX5_requireArgument 13 = .ok (.athrow, 1) := by decide +kernel
theorem dX5_requireArgument_14 : decode cX5_requireArgument 14 = .ok (.return_, 1) := by decide +kernel
theorem dX5_requireState_0 : decode cX5_requireState 0 = .ok (.iload_n 0, 1) := by decide +kernel
theorem dX5_requireState_1 : decode cX5_requireState 1 = .ok (.ifCond .ne 13, 3) := by decide +kernel
theorem dX5_requireState_4 : decode cX5_requireState 4 = .ok (.new 225, 3) := by decide +kernel
theorem dX5_requireState_7 : decode cX5_requireState 7 = .ok (.dup, 1) := by decide +kernel
theorem dX5_requireState_8 : decode cX5_requireState 8 = .ok (.ldc 227, 2) := by decide +kernel
theorem dX5_requireState_10 : decode cX5_requireState 10 = .ok (.invokespecial 229, 3) := by decide +kernel
theorem dX5_requireState_13 : decode cX5_requireState 13 = .ok (.athrow, 1) := by decide +kernel
theorem dX5_requireState_14 : decode cX5_requireState 14 = .ok (.return_, 1) := by decide +kernel
theorem dX5_letOneSampleGoBy_0 : decode cX5_letOneSampleGoBy 0 = .ok (.iconst 0, 1) := by decide +kernel
theorem dX5_letOneSampleGoBy_1 : decode cX5_letOneSampleGoBy 1 = .ok (.istore_n 1, 1) := by decide +kernel
theorem dX5_letOneSampleGoBy_2 : decode cX5_letOneSampleGoBy 2 = .ok (.iload_n 1, 1) := by decide +kernel
theorem dX5_letOneSampleGoBy_3 : decode cX5_letOneSampleGoBy 3 = .ok (.aload_n 0, 1) := by decide +kernel
theorem dX5_letOneSampleGoBy_4 : decode cX5_letOneSampleGoBy 4 = .ok (.getfield 11, 3) := by decide +kernel
theorem dX5_letOneSampleGoBy_7 : decode cX5_letOneSampleGoBy 7 = .ok (.arraylength, 1) := by decide +kernel
theorem dX5_letOneSampleGoBy_8 : decode cX5_letOneSampleGoBy 8 = .ok (.if_icmp .ge 14, 3) := by decide +kernel
theorem dX5_letOneSampleGoBy_11 : decode cX5_letOneSampleGoBy 11 = .ok (.aload_n 0, 1) := by decide +kernel
theorem dX5_letOneSampleGoBy_12 : decode cX5_letOneSampleGoBy 12 = .ok (.iload_n 1, 1) := by decide +kernel
theorem dX5_letOneSampleGoBy_13 : decode cX5_letOneSampleGoBy 13 = .ok (.invokevirtual 230, 3) := by decide +kernel
theorem dX5_letOneSampleGoBy_16 : decode cX5_letOneSampleGoBy 16 = .ok (.iinc 1 1, 3) := by decide +kernel
theorem dX5_letOneSampleGoBy_19 : decode cX5_letOneSampleGoBy 19 = .ok (.goto (-17), 3) := by decide +kernel
theorem dX5_letOneSampleGoBy_22 : decode cX5_letOneSampleGoBy 22 = .ok (.iconst 0, 1) := by decide +kernel
theorem dX5_letOneSampleGoBy_23 : decode cX5_letOneSampleGoBy 23 = .ok (.istore_n 1, 1) := by decide +kernel
theorem dX5_letOneSampleGoBy_24 : decode cX5_letOneSampleGoBy 24 = .ok (.iload_n 1, 1) := by decide +kernel
theorem dX5_letOneSampleGoBy_25 : decode cX5_letOneSampleGoBy 25 = .ok (.aload_n 0, 1) := by decide +kernel
theorem dX5_letOneSampleGoBy_26 : decode cX5_letOneSampleGoBy 26 = .ok (.getfield 11, 3) := by decide +kernel
theorem dX5_letOneSampleGoBy_29 : decode cX5_letOneSampleGoBy 29 = .ok (.arraylength, 1) := by decide +kernel
theorem dX5_letOneSampleGoBy_30 : decode cX5_letOneSampleGoBy 30 = .ok (.if_icmp .ge 30, 3) := by decide +kernel
theorem dX5_letOneSampleGoBy_33 : decode cX5_letOneSampleGoBy 33 = .ok (.aload_n 0, 1) := by decide +kernel
theorem dX5_letOneSampleGoBy_34 : decode cX5_letOneSampleGoBy 34 = .ok (.getfield 11, 3) := by decide +kernel
theorem dX5_letOneSampleGoBy_37 : decode cX5_letOneSampleGoBy 37 = .ok (.iload_n 1, 1) := by decide +kernel
theorem dX5_letOneSampleGoBy_38 : decode cX5_letOneSampleGoBy 38 = .ok (.aaload, 1) := by decide +kernel
theorem dX5_letOneSampleGoBy_39 : decode cX5_letOneSampleGoBy 39 = .ok (.getfield 20, 3) := by decide +kernel
theorem dX5_letOneSampleGoBy_42 : decode cX5_letOneSampleGoBy 42 = .ok (.aload_n 0, 1) := by decide +kernel
theorem dX5_letOneSampleGoBy_43 : decode cX5_letOneSampleGoBy 43 = .ok (.getfield 11, 3) := by decide +kernel
theorem dX5_letOneSampleGoBy_46 : decode cX5_letOneSampleGoBy 46 = .ok (.iload_n 1, 1) := by decide +kernel
theorem dX5_letOneSampleGoBy_47 : decode cX5_letOneSampleGoBy 47 = .ok (.aaload, 1) := by decide +kernel
theorem dX5_letOneSampleGoBy_48 : decode cX5_letOneSampleGoBy 48 = .ok (.getfield 131, 3) := by decide +kernel
theorem dX5_letOneSampleGoBy_51 : decode cX5_letOneSampleGoBy 51 = .ok (.invokevirtual 233, 3) := by decide +kernel
theorem dX5_letOneSampleGoBy_54 : decode cX5_letOneSampleGoBy 54 = .ok (.iinc 1 1, 3) := by decide +kernel
theorem dX5_letOneSampleGoBy_57 : decode cX5_letOneSampleGoBy 57 = .ok (.goto (-33), 3) := by decide +kernel
theorem dX5_letOneSampleGoBy_60 : decode cX5_letOneSampleGoBy 60 = .ok (.return_, 1) := by decide +kernel
theorem dX5_takeTurn_0 : decode cX5_takeTurn 0 = .ok (.iload_n 1, 1) := by decide +kernel
theorem dX5_takeTurn_1 : decode cX5_takeTurn 1 = .ok (.ifCond .lt 12, 3) := by decide +kernel
theorem dX5_takeTurn_4 : decode cX5_takeTurn 4 = .ok (.iload_n 1, 1) := by decide +kernel
theorem dX5_takeTurn_5 : decode cX5_takeTurn 5 = .ok (.aload_n 0, 1) := by decide +kernel
theorem dX5_takeTurn_6 : decode cX5_takeTurn 6 = .ok (.getfield 11, 3) := by decide +kernel
theorem dX5_takeTurn_9 : decode cX5_takeTurn 9 = .ok (.arraylength, 1) := by decide +kernel
theorem dX5_takeTurn_10 : decode cX5_takeTurn 10 = .ok (.if_icmp .lt 4, 3) := by decide +kernel
theorem dX5_takeTurn_13 : decode cX5_takeTurn 13 = .ok (.return_, 1) := by decide +kernel
theorem dX5_takeTurn_14 : decode cX5_takeTurn 14 = .ok (.aload_n 0, 1) := by decide +kernel
theorem dX5_takeTurn_15 : decode cX5_takeTurn 15 = .ok (.getfield 11, 3) := by decide +kernel
theorem dX5_takeTurn_18 : decode cX5_takeTurn 18 = .ok (.iload_n 1, 1) := by decide +kernel
theorem dX5_takeTurn_19 : decode cX5_takeTurn 19 = .ok (.aaload, 1) := by decide +kernel
theorem dX5_takeTurn_20 : decode cX5_takeTurn 20 = .ok (.astore_n 2, 1) := by decide +kernel
theorem dX5_takeTurn_21 : decode cX5_takeTurn 21 = .ok (.aload_n 2, 1) := by decide +kernel
theorem dX5_takeTurn_22 : decode cX5_takeTurn 22 = .ok (.getfield 49, 3) := by decide +kernel
theorem dX5_takeTurn_25 : decode cX5_takeTurn 25 = .ok (.iconst 2, 1) := by decide +kernel
theorem dX5_takeTurn_26 : decode cX5_takeTurn 26 = .ok (.if_icmp .ne 25, 3) := by decide +kernel
theorem dX5_takeTurn_29 : decode cX5_takeTurn 29 = .ok (.iload_n 1, 1) := by decide +kernel
theorem dX5_takeTurn_30 : decode cX5_takeTurn 30 = .ok (.ifCond .le 21, 3) := by decide +kernel
theorem dX5_takeTurn_33 : decode cX5_takeTurn 33 = .ok (.aload_n 2, 1) := by decide +kernel
theorem dX5_takeTurn_34 : decode cX5_takeTurn 34 = .ok (.getfield 56, 3) := by decide +kernel
theorem dX5_takeTurn_37 : decode cX5_takeTurn 37 = .ok (.aload_n 0, 1) := by decide +kernel
theorem dX5_takeTurn_38 : decode cX5_takeTurn 38 = .ok (.getfield 11, 3) := by decide +kernel
theorem dX5_takeTurn_41 : decode cX5_takeTurn 41 = .ok (.iload_n 1, 1) := by decide +kernel
theorem dX5_takeTurn_42 : decode cX5_takeTurn 42 = .ok (.iconst 1, 1) := by decide +kernel
theorem dX5_takeTurn_43 : decode cX5_takeTurn 43 = .ok (.isub, 1) := by decide +kernel
theorem dX5_takeTurn_44 : decode cX5_takeTurn 44 = .ok (.aaload, 1) := by decide +kernel
theorem dX5_takeTurn_45 : decode cX5_takeTurn 45 = .ok (.getfield 131, 3) := by decide +kernel
theorem dX5_takeTurn_48 : decode cX5_takeTurn 48 = .ok (.putfield 104, 3) := by decide +kernel
theorem dX5_takeTurn_51 : decode cX5_takeTurn 51 = .ok (.aload_n 2, 1) := by decide +kernel
theorem dX5_takeTurn_52 : decode cX5_takeTurn 52 = .ok (.iconst 0, 1) := by decide +kernel
theorem dX5_takeTurn_53 : decode cX5_takeTurn 53 = .ok (.putfield 160, 3) := by decide +kernel
theorem dX5_takeTurn_56 : decode cX5_takeTurn 56 = .ok (.iload_n 1, 1) := by decide +kernel
theorem dX5_takeTurn_57 : decode cX5_takeTurn 57 = .ok (.iconst 1, 1) := by decide +kernel
theorem dX5_takeTurn_58 : decode cX5_takeTurn 58 = .ok (.iadd, 1) := by decide +kernel
theorem dX5_takeTurn_59 : decode cX5_takeTurn 59 = .ok (.aload_n 0, 1) := by decide +kernel
theorem dX5_takeTurn_60 : decode cX5_takeTurn 60 = .ok (.getfield 11, 3) := by decide +kernel
theorem dX5_takeTurn_63 : decode cX5_takeTurn 63 = .ok (.arraylength, 1) := by decide +kernel
theorem dX5_takeTurn_64 : decode cX5_takeTurn 64 = .ok (.if_icmp .ge 39, 3) := by decide +kernel
theorem dX5_takeTurn_67 : decode cX5_takeTurn 67 = .ok (.aload_n 2, 1) := by decide +kernel
theorem dX5_takeTurn_68 : decode cX5_takeTurn 68 = .ok (.aload_n 0, 1) := by decide +kernel
theorem dX5_takeTurn_69 : decode cX5_takeTurn 69 = .ok (.getfield 11, 3) := by decide +kernel
theorem dX5_takeTurn_72 : decode cX5_takeTurn 72 = .ok (.iload_n 1, 1) := by decide +kernel
theorem dX5_takeTurn_73 : decode cX5_takeTurn 73 = .ok (.iconst 1, 1) := by decide +kernel
theorem dX5_takeTurn_74 : decode cX5_takeTurn 74 = .ok (.iadd, 1) := by decide +kernel
theorem dX5_takeTurn_75 : decode cX5_takeTurn 75 = .ok (.aaload, 1) := by decide +kernel
theorem dX5_takeTurn_76 : decode cX5_takeTurn 76 = .ok (.invokevirtual 237, 3) := by decide +kernel
theorem dX5_takeTurn_79 : decode cX5_takeTurn 79 = .ok (.ifCond .eq 24, 3) := by decide +kernel
theorem dX5_takeTurn_82 : decode cX5_takeTurn 82 = .ok (.aload_n 2, 1) := by decide +kernel
theorem dX5_takeTurn_83 : decode cX5_takeTurn 83 = .ok (.aload_n 0, 1) := by decide +kernel
theorem dX5_takeTurn_84 : decode cX5_takeTurn 84 = .ok (.getfield 11, 3) := by decide +kernel
theorem dX5_takeTurn_87 : decode cX5_takeTurn 87 = .ok (.iload_n 1, 1) := by decide +kernel
theorem dX5_takeTurn_88 : decode cX5_takeTurn 88 = .ok (.iconst 1, 1) := by decide +kernel
theorem dX5_takeTurn_89 : decode cX5_takeTurn 89 = .ok (.iadd, 1) := by decide +kernel
theorem dX5_takeTurn_90 : decode cX5_takeTurn 90 = .ok (.aaload, 1) := by decide +kernel
theorem dX5_takeTurn_91 : decode cX5_takeTurn 91 = .ok (.getfield 56, 3) := by decide +kernel
theorem dX5_takeTurn_94 : decode cX5_takeTurn 94 = .ok (.getfield 104, 3) := by decide +kernel
theorem dX5_takeTurn_97 : decode cX5_takeTurn 97 = .ok (.invokevirtual 241, 3) := by decide +kernel
theorem dX5_takeTurn_100 : decode cX5_takeTurn 100 = .ok (.goto 36, 3) := by decide +kernel
theorem dX5_takeTurn_103 : decode cX5_takeTurn 103 = .ok (.aload_n 2, 1) := by decide +kernel
theorem dX5_takeTurn_104 : decode cX5_takeTurn 104 = .ok (.getfield 49, 3) := by decide +kernel
theorem dX5_takeTurn_107 : decode cX5_takeTurn 107 = .ok (.ifCond .ne 10, 3) := by decide +kernel
theorem dX5_takeTurn_110 : decode cX5_takeTurn 110 = .ok (.aload_n 2, 1) := by decide +kernel
theorem dX5_takeTurn_111 : decode cX5_takeTurn 111 = .ok (.invokevirtual 244, 3) := by decide +kernel
theorem dX5_takeTurn_114 : decode cX5_takeTurn 114 = .ok (.goto 22, 3) := by decide +kernel
theorem dX5_takeTurn_117 : decode cX5_takeTurn 117 = .ok (.aload_n 2, 1) := by decide +kernel
theorem dX5_takeTurn_118 : decode cX5_takeTurn 118 = .ok (.getfield 49, 3) := by decide +kernel
theorem dX5_takeTurn_121 : decode cX5_takeTurn 121 = .ok (.iconst 3, 1) := by decide +kernel
theorem dX5_takeTurn_122 : decode cX5_takeTurn 122 = .ok (.if_icmp .ne 10, 3) := by decide +kernel
theorem dX5_takeTurn_125 : decode cX5_takeTurn 125 = .ok (.aload_n 2, 1) := by decide +kernel
theorem dX5_takeTurn_126 : decode cX5_takeTurn 126 = .ok (.invokevirtual 247, 3) := by decide +kernel
theorem dX5_takeTurn_129 : decode cX5_takeTurn 129 = .ok (.goto 7, 3) := by decide +kernel
theorem dX5_takeTurn_132 : decode cX5_takeTurn 132 = .ok (.aload_n 2, 1) := by decide +kernel
theorem dX5_takeTurn_133 : decode cX5_takeTurn 133 = .ok (.invokevirtual 250, 3) := by decide +kernel
theorem dX5_takeTurn_136 : decode cX5_takeTurn 136 = .ok (.return_, 1) := by decide +kernel
theorem dX5_hold_0 : decode cX5_hold 0 = .ok (.lload_n 2, 1) := by decide +kernel
theorem dX5_hold_1 : decode cX5_hold 1 = .ok (.lload 4, 2) := by decide +kernel
theorem dX5_hold_3 : decode cX5_hold 3 = .ok (.lload_n 0, 1) := by decide +kernel
theorem dX5_hold_4 : decode cX5_hold 4 = .ok (.invokestatic 196, 3) := by decide +kernel
theorem dX5_hold_7 : decode cX5_hold 7 = .ok (.invokestatic 253, 3) := by decide +kernel
theorem dX5_hold_10 : decode cX5_hold 10 = .ok (.lreturn, 1) := by decide +kernel
theorem dJ9_floorDiv_f86c9_0 : decode cJ9_floorDiv_f86c9 0 = .ok (.lload_n 0, 1) := by decide +kernel
theorem dJ9_floorDiv_f86c9_1 : decode cJ9_floorDiv_f86c9 1 = .ok (.lload_n 2, 1) := by decide +kernel
theorem dJ9_floorDiv_f86c9_2 : decode cJ9_floorDiv_f86c9 2 = .ok (.ldiv, 1) := by decide +kernel
theorem dJ9_floorDiv_f86c9_3 : decode cJ9_floorDiv_f86c9 3 = .ok (.lstore 4, 2) := by decide +kernel
theorem dJ9_floorDiv_f86c9_5 : decode cJ9_floorDiv_f86c9 5 = .ok (.lload_n 0, 1) := by decide +kernel
theorem dJ9_floorDiv_f86c9_6 : decode cJ9_floorDiv_f86c9 6 = .ok (.lload_n 2, 1) := by decide +kernel
theorem dJ9_floorDiv_f86c9_7 : decode cJ9_floorDiv_f86c9 7 = .ok (.lxor, 1) := by decide +kernel
theorem dJ9_floorDiv_f86c9_8 : decode cJ9_floorDiv_f86c9 8 = .ok (.lconst 0, 1) := by decide +kernel
theorem dJ9_floorDiv_f86c9_9 : decode cJ9_floorDiv_f86c9 9 = .ok (.lcmp, 1) := by decide +kernel
theorem dJ9_floorDiv_f86c9_10 : decode cJ9_floorDiv_f86c9 10 = .ok (.ifCond .ge 17, 3) := by decide +kernel
theorem dJ9_floorDiv_f86c9_13 : decode cJ9_floorDiv_f86c9 13 = .ok (.lload 4, 2) := by decide +kernel
theorem dJ9_floorDiv_f86c9_15 : decode cJ9_floorDiv_f86c9 15 = .ok (.lload_n 2, 1) := by decide +kernel
theorem dJ9_floorDiv_f86c9_16 : decode cJ9_floorDiv_f86c9 16 = .ok (.lmul, 1) := by decide +kernel
theorem dJ9_floorDiv_f86c9_17 : decode cJ9_floorDiv_f86c9 17 = .ok (.lload_n 0, 1) := by decide +kernel
theorem dJ9_floorDiv_f86c9_18 : decode cJ9_floorDiv_f86c9 18 = .ok (.lcmp, 1) := by decide +kernel
theorem dJ9_floorDiv_f86c9_19 : decode cJ9_floorDiv_f86c9 19 = .ok (.ifCond .eq 8, 3) := by decide +kernel
theorem dJ9_floorDiv_f86c9_22 : decode cJ9_floorDiv_f86c9 22 = .ok (.lload 4, 2) := by decide +kernel
theorem dJ9_floorDiv_f86c9_24 : decode cJ9_floorDiv_f86c9 24 = .ok (.lconst 1, 1) := by decide +kernel
theorem dJ9_floorDiv_f86c9_25 : decode cJ9_floorDiv_f86c9 25 = .ok (.lsub, 1) := by decide +kernel
theorem dJ9_floorDiv_f86c9_26 : decode cJ9_floorDiv_f86c9 26 = .ok (.lreturn, 1) := by decide +kernel
theorem dJ9_floorDiv_f86c9_27 : decode cJ9_floorDiv_f86c9 27 = .ok (.lload 4, 2) := by decide +kernel
theorem dJ9_floorDiv_f86c9_29 : decode cJ9_floorDiv_f86c9 29 = .ok (.lreturn, 1) := by decide +kernel
theorem dJ9_floorMod_7cf53_0 : decode cJ9_floorMod_7cf53 0 = .ok (.iload_n 0, 1) := by decide +kernel
theorem dJ9_floorMod_7cf53_1 : decode cJ9_floorMod_7cf53 1 = .ok (.iload_n 1, 1) := by decide +kernel
theorem dJ9_floorMod_7cf53_2 : decode cJ9_floorMod_7cf53 2 = .ok (.irem, 1) := by decide +kernel
theorem dJ9_floorMod_7cf53_3 : decode cJ9_floorMod_7cf53 3 = .ok (.istore_n 2, 1) := by decide +kernel
theorem dJ9_floorMod_7cf53_4 : decode cJ9_floorMod_7cf53 4 = .ok (.iload_n 0, 1) := by decide +kernel
theorem dJ9_floorMod_7cf53_5 : decode cJ9_floorMod_7cf53 5 = .ok (.iload_n 1, 1) := by decide +kernel
theorem dJ9_floorMod_7cf53_6 : decode cJ9_floorMod_7cf53 6 = .ok (.ixor, 1) := by decide +kernel
theorem dJ9_floorMod_7cf53_7 : decode cJ9_floorMod_7cf53 7 = .ok (.ifCond .ge 11, 3) := by decide +kernel
theorem dJ9_floorMod_7cf53_10 : decode cJ9_floorMod_7cf53 10 = .ok (.iload_n 2, 1) := by decide +kernel
theorem dJ9_floorMod_7cf53_11 : decode cJ9_floorMod_7cf53 11 = .ok (.ifCond .eq 7, 3) := by decide +kernel
theorem dJ9_floorMod_7cf53_14 : decode cJ9_floorMod_7cf53 14 = .ok (.iload_n 2, 1) := by decide +kernel
theorem dJ9_floorMod_7cf53_15 : decode cJ9_floorMod_7cf53 15 = .ok (.iload_n 1, 1) := by decide +kernel
theorem dJ9_floorMod_7cf53_16 : decode cJ9_floorMod_7cf53 16 = .ok (.iadd, 1) := by decide +kernel
theorem dJ9_floorMod_7cf53_17 : decode cJ9_floorMod_7cf53 17 = .ok (.ireturn, 1) := by decide +kernel
theorem dJ9_floorMod_7cf53_18 : decode cJ9_floorMod_7cf53 18 = .ok (.iload_n 2, 1) := by decide +kernel
theorem dJ9_floorMod_7cf53_19 : decode cJ9_floorMod_7cf53 19 = .ok (.ireturn, 1) := by decide +kernel
theorem dJ9_max_f86c9_0 : decode cJ9_max_f86c9 0 = .ok (.lload_n 0, 1) := by decide +kernel
theorem dJ9_max_f86c9_1 : decode cJ9_max_f86c9 1 = .ok (.lload_n 2, 1) := by decide +kernel
theorem dJ9_max_f86c9_2 : decode cJ9_max_f86c9 2 = .ok (.lcmp, 1) := by decide +kernel
theorem dJ9_max_f86c9_3 : decode cJ9_max_f86c9 3 = .ok (.ifCond .lt 7, 3) := by decide +kernel
theorem dJ9_max_f86c9_6 : decode cJ9_max_f86c9 6 = .ok (.lload_n 0, 1) := by decide +kernel
theorem dJ9_max_f86c9_7 : decode cJ9_max_f86c9 7 = .ok (.goto 4, 3) := by decide +kernel
theorem dJ9_max_f86c9_10 : decode cJ9_max_f86c9 10 = .ok (.lload_n 2, 1) := by decide +kernel
theorem dJ9_max_f86c9_11 : decode cJ9_max_f86c9 11 = .ok (.lreturn, 1) := by decide +kernel
theorem dJ9_min_7cf53_0 : decode cJ9_min_7cf53 0 = .ok (.iload_n 0, 1) := by decide +kernel
theorem dJ9_min_7cf53_1 : decode cJ9_min_7cf53 1 = .ok (.iload_n 1, 1) := by decide +kernel
theorem dJ9_min_7cf53_2 : decode cJ9_min_7cf53 2 = .ok (.if_icmp .gt 7, 3) := by decide +kernel
theorem dJ9_min_7cf53_5 : decode cJ9_min_7cf53 5 = .ok (.iload_n 0, 1) := by decide +kernel
theorem dJ9_min_7cf53_6 : decode cJ9_min_7cf53 6 = .ok (.goto 4, 3) := by decide +kernel
theorem dJ9_min_7cf53_9 : decode cJ9_min_7cf53 9 = .ok (.iload_n 1, 1) := by decide +kernel
theorem dJ9_min_7cf53_10 : decode cJ9_min_7cf53 10 = .ok (.ireturn, 1) := by decide +kernel
theorem dJ9_min_f86c9_0 : decode cJ9_min_f86c9 0 = .ok (.lload_n 0, 1) := by decide +kernel
theorem dJ9_min_f86c9_1 : decode cJ9_min_f86c9 1 = .ok (.lload_n 2, 1) := by decide +kernel
theorem dJ9_min_f86c9_2 : decode cJ9_min_f86c9 2 = .ok (.lcmp, 1) := by decide +kernel
theorem dJ9_min_f86c9_3 : decode cJ9_min_f86c9 3 = .ok (.ifCond .gt 7, 3) := by decide +kernel
theorem dJ9_min_f86c9_6 : decode cJ9_min_f86c9 6 = .ok (.lload_n 0, 1) := by decide +kernel
theorem dJ9_min_f86c9_7 : decode cJ9_min_f86c9 7 = .ok (.goto 4, 3) := by decide +kernel
theorem dJ9_min_f86c9_10 : decode cJ9_min_f86c9 10 = .ok (.lload_n 2, 1) := by decide +kernel
theorem dJ9_min_f86c9_11 : decode cJ9_min_f86c9 11 = .ok (.lreturn, 1) := by decide +kernel
