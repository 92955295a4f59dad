theorem dL_setPlant_0 : decode cL_setPlant 0 = .ok (.aload_n 0, 1) := by decide +kernel
theorem dL_setPlant_1 : decode cL_setPlant 1 = .ok (.iload_n 1, 1) := by decide +kernel
theorem dL_setPlant_2 : decode cL_setPlant 2 = .ok (.iload_n 2, 1) := by decide +kernel
theorem dL_setPlant_3 : decode cL_setPlant 3 = .ok (.iload_n 3, 1) := by decide +kernel
theorem dL_setPlant_4 : decode cL_setPlant 4 = .ok (.iload 4, 2) := by decide +kernel
theorem dL_setPlant_6 : decode cL_setPlant 6 = .ok (.iload 5, 2) := by decide +kernel
theorem dL_setPlant_8 : decode cL_setPlant 8 = .ok (.invokevirtual 7, 3) := by decide +kernel
theorem dL_setPlant_11 : decode cL_setPlant 11 = .ok (.goto 11, 3) := by decide +kernel
theorem dL_setPlant_14 : decode cL_setPlant 14 = .ok (.astore 6, 2) := by decide +kernel
theorem dL_setPlant_16 : decode cL_setPlant 16 = .ok (.iconst 1, 1) := by decide +kernel
theorem dL_setPlant_17 : decode cL_setPlant 17 = .ok (.ireturn, 1) := by decide +kernel
theorem dL_setPlant_18 : decode cL_setPlant 18 = .ok (.astore 6, 2) := by decide +kernel
theorem dL_setPlant_20 : decode cL_setPlant 20 = .ok (.iconst 2, 1) := by decide +kernel
theorem dL_setPlant_21 : decode cL_setPlant 21 = .ok (.ireturn, 1) := by decide +kernel
theorem dL_setPlant_22 : decode cL_setPlant 22 = .ok (.iconst 0, 1) := by decide +kernel
theorem dL_setPlant_23 : decode cL_setPlant 23 = .ok (.ireturn, 1) := by decide +kernel
theorem dL_setLoad_0 : decode cL_setLoad 0 = .ok (.aload_n 3, 1) := by decide +kernel
theorem dL_setLoad_1 : decode cL_setLoad 1 = .ok (.iconst 0, 1) := by decide +kernel
theorem dL_setLoad_2 : decode cL_setLoad 2 = .ok (.aload_n 0, 1) := by decide +kernel
theorem dL_setLoad_3 : decode cL_setLoad 3 = .ok (.iload_n 1, 1) := by decide +kernel
theorem dL_setLoad_4 : decode cL_setLoad 4 = .ok (.iload_n 2, 1) := by decide +kernel
theorem dL_setLoad_5 : decode cL_setLoad 5 = .ok (.invokevirtual 17, 3) := by decide +kernel
theorem dL_setLoad_8 : decode cL_setLoad 8 = .ok (.i2l, 1) := by decide +kernel
theorem dL_setLoad_9 : decode cL_setLoad 9 = .ok (.lastore, 1) := by decide +kernel
theorem dL_setLoad_10 : decode cL_setLoad 10 = .ok (.goto 11, 3) := by decide +kernel
theorem dL_setLoad_13 : decode cL_setLoad 13 = .ok (.astore 4, 2) := by decide +kernel
theorem dL_setLoad_15 : decode cL_setLoad 15 = .ok (.iconst 1, 1) := by decide +kernel
theorem dL_setLoad_16 : decode cL_setLoad 16 = .ok (.ireturn, 1) := by decide +kernel
theorem dL_setLoad_17 : decode cL_setLoad 17 = .ok (.astore 4, 2) := by decide +kernel
theorem dL_setLoad_19 : decode cL_setLoad 19 = .ok (.iconst 2, 1) := by decide +kernel
theorem dL_setLoad_20 : decode cL_setLoad 20 = .ok (.ireturn, 1) := by decide +kernel
theorem dL_setLoad_21 : decode cL_setLoad 21 = .ok (.iconst 0, 1) := by decide +kernel
theorem dL_setLoad_22 : decode cL_setLoad 22 = .ok (.ireturn, 1) := by decide +kernel
theorem dL_setGains_0 : decode cL_setGains 0 = .ok (.aload 5, 2) := by decide +kernel
theorem dL_setGains_2 : decode cL_setGains 2 = .ok (.iconst 0, 1) := by decide +kernel
theorem dL_setGains_3 : decode cL_setGains 3 = .ok (.aload_n 0, 1) := by decide +kernel
theorem dL_setGains_4 : decode cL_setGains 4 = .ok (.iload_n 1, 1) := by decide +kernel
theorem dL_setGains_5 : decode cL_setGains 5 = .ok (.iload_n 2, 1) := by decide +kernel
theorem dL_setGains_6 : decode cL_setGains 6 = .ok (.iload_n 3, 1) := by decide +kernel
theorem dL_setGains_7 : decode cL_setGains 7 = .ok (.iload 4, 2) := by decide +kernel
theorem dL_setGains_9 : decode cL_setGains 9 = .ok (.invokevirtual 21, 3) := by decide +kernel
theorem dL_setGains_12 : decode cL_setGains 12 = .ok (.i2l, 1) := by decide +kernel
theorem dL_setGains_13 : decode cL_setGains 13 = .ok (.lastore, 1) := by decide +kernel
theorem dL_setGains_14 : decode cL_setGains 14 = .ok (.goto 15, 3) := by decide +kernel
theorem dL_setGains_17 : decode cL_setGains 17 = .ok (.astore 6, 2) := by decide +kernel
theorem dL_setGains_19 : decode cL_setGains 19 = .ok (.iconst 1, 1) := by decide +kernel
theorem dL_setGains_20 : decode cL_setGains 20 = .ok (.ireturn, 1) := by decide +kernel
theorem dL_setGains_21 : decode cL_setGains 21 = .ok (.astore 6, 2) := by decide +kernel
theorem dL_setGains_23 : decode cL_setGains 23 = .ok (.iconst 2, 1) := by decide +kernel
theorem dL_setGains_24 : decode cL_setGains 24 = .ok (.ireturn, 1) := by decide +kernel
theorem dL_setGains_25 : decode cL_setGains 25 = .ok (.astore 6, 2) := by decide +kernel
theorem dL_setGains_27 : decode cL_setGains 27 = .ok (.iconst 3, 1) := by decide +kernel
theorem dL_setGains_28 : decode cL_setGains 28 = .ok (.ireturn, 1) := by decide +kernel
theorem dL_setGains_29 : decode cL_setGains 29 = .ok (.iconst 0, 1) := by decide +kernel
theorem dL_setGains_30 : decode cL_setGains 30 = .ok (.ireturn, 1) := by decide +kernel
theorem dL_addPoint_0 : decode cL_addPoint 0 = .ok (.aload 6, 2) := by decide +kernel
theorem dL_addPoint_2 : decode cL_addPoint 2 = .ok (.iconst 0, 1) := by decide +kernel
theorem dL_addPoint_3 : decode cL_addPoint 3 = .ok (.aload_n 0, 1) := by decide +kernel
theorem dL_addPoint_4 : decode cL_addPoint 4 = .ok (.iload_n 1, 1) := by decide +kernel
theorem dL_addPoint_5 : decode cL_addPoint 5 = .ok (.iload_n 2, 1) := by decide +kernel
theorem dL_addPoint_6 : decode cL_addPoint 6 = .ok (.iload_n 3, 1) := by decide +kernel
theorem dL_addPoint_7 : decode cL_addPoint 7 = .ok (.iload 4, 2) := by decide +kernel
theorem dL_addPoint_9 : decode cL_addPoint 9 = .ok (.iload 5, 2) := by decide +kernel
theorem dL_addPoint_11 : decode cL_addPoint 11 = .ok (.invokevirtual 27, 3) := by decide +kernel
theorem dL_addPoint_14 : decode cL_addPoint 14 = .ok (.i2l, 1) := by decide +kernel
theorem dL_addPoint_15 : decode cL_addPoint 15 = .ok (.lastore, 1) := by decide +kernel
theorem dL_addPoint_16 : decode cL_addPoint 16 = .ok (.goto 15, 3) := by decide +kernel
theorem dL_addPoint_19 : decode cL_addPoint 19 = .ok (.astore 7, 2) := by decide +kernel
theorem dL_addPoint_21 : decode cL_addPoint 21 = .ok (.iconst 1, 1) := by decide +kernel
theorem dL_addPoint_22 : decode cL_addPoint 22 = .ok (.ireturn, 1) := by decide +kernel
theorem dL_addPoint_23 : decode cL_addPoint 23 = .ok (.astore 7, 2) := by decide +kernel
theorem dL_addPoint_25 : decode cL_addPoint 25 = .ok (.iconst 2, 1) := by decide +kernel
theorem dL_addPoint_26 : decode cL_addPoint 26 = .ok (.ireturn, 1) := by decide +kernel
theorem dL_addPoint_27 : decode cL_addPoint 27 = .ok (.astore 7, 2) := by decide +kernel
theorem dL_addPoint_29 : decode cL_addPoint 29 = .ok (.iconst 3, 1) := by decide +kernel
theorem dL_addPoint_30 : decode cL_addPoint 30 = .ok (.ireturn, 1) := by decide +kernel
theorem dL_addPoint_31 : decode cL_addPoint 31 = .ok (.iconst 0, 1) := by decide +kernel
theorem dL_addPoint_32 : decode cL_addPoint 32 = .ok (.ireturn, 1) := by decide +kernel
theorem dL_setLimits_0 : decode cL_setLimits 0 = .ok (.aload_n 0, 1) := by decide +kernel
theorem dL_setLimits_1 : decode cL_setLimits 1 = .ok (.iload_n 1, 1) := by decide +kernel
theorem dL_setLimits_2 : decode cL_setLimits 2 = .ok (.iload_n 2, 1) := by decide +kernel
theorem dL_setLimits_3 : decode cL_setLimits 3 = .ok (.iload_n 3, 1) := by decide +kernel
theorem dL_setLimits_4 : decode cL_setLimits 4 = .ok (.invokevirtual 31, 3) := by decide +kernel
theorem dL_setLimits_7 : decode cL_setLimits 7 = .ok (.goto 11, 3) := by decide +kernel
theorem dL_setLimits_10 : decode cL_setLimits 10 = .ok (.astore 4, 2) := by decide +kernel
theorem dL_setLimits_12 : decode cL_setLimits 12 = .ok (.iconst 1, 1) := by decide +kernel
theorem dL_setLimits_13 : decode cL_setLimits 13 = .ok (.ireturn, 1) := by decide +kernel
theorem dL_setLimits_14 : decode cL_setLimits 14 = .ok (.astore 4, 2) := by decide +kernel
theorem dL_setLimits_16 : decode cL_setLimits 16 = .ok (.iconst 2, 1) := by decide +kernel
theorem dL_setLimits_17 : decode cL_setLimits 17 = .ok (.ireturn, 1) := by decide +kernel
theorem dL_setLimits_18 : decode cL_setLimits 18 = .ok (.iconst 0, 1) := by decide +kernel
theorem dL_setLimits_19 : decode cL_setLimits 19 = .ok (.ireturn, 1) := by decide +kernel
theorem dL_setGuard_0 : decode cL_setGuard 0 = .ok (.aload 4, 2) := by decide +kernel
theorem dL_setGuard_2 : decode cL_setGuard 2 = .ok (.iconst 0, 1) := by decide +kernel
theorem dL_setGuard_3 : decode cL_setGuard 3 = .ok (.aload_n 0, 1) := by decide +kernel
theorem dL_setGuard_4 : decode cL_setGuard 4 = .ok (.iload_n 1, 1) := by decide +kernel
theorem dL_setGuard_5 : decode cL_setGuard 5 = .ok (.iload_n 2, 1) := by decide +kernel
theorem dL_setGuard_6 : decode cL_setGuard 6 = .ok (.iload_n 3, 1) := by decide +kernel
theorem dL_setGuard_7 : decode cL_setGuard 7 = .ok (.invokevirtual 35, 3) := by decide +kernel
theorem dL_setGuard_10 : decode cL_setGuard 10 = .ok (.i2l, 1) := by decide +kernel
theorem dL_setGuard_11 : decode cL_setGuard 11 = .ok (.lastore, 1) := by decide +kernel
theorem dL_setGuard_12 : decode cL_setGuard 12 = .ok (.goto 11, 3) := by decide +kernel
theorem dL_setGuard_15 : decode cL_setGuard 15 = .ok (.astore 5, 2) := by decide +kernel
theorem dL_setGuard_17 : decode cL_setGuard 17 = .ok (.iconst 1, 1) := by decide +kernel
theorem dL_setGuard_18 : decode cL_setGuard 18 = .ok (.ireturn, 1) := by decide +kernel
theorem dL_setGuard_19 : decode cL_setGuard 19 = .ok (.astore 5, 2) := by decide +kernel
theorem dL_setGuard_21 : decode cL_setGuard 21 = .ok (.iconst 2, 1) := by decide +kernel
theorem dL_setGuard_22 : decode cL_setGuard 22 = .ok (.ireturn, 1) := by decide +kernel
theorem dL_setGuard_23 : decode cL_setGuard 23 = .ok (.iconst 0, 1) := by decide +kernel
theorem dL_setGuard_24 : decode cL_setGuard 24 = .ok (.ireturn, 1) := by decide +kernel
theorem dL_setSetpoint_0 : decode cL_setSetpoint 0 = .ok (.aload_n 3, 1) := by decide +kernel
theorem dL_setSetpoint_1 : decode cL_setSetpoint 1 = .ok (.iconst 0, 1) := by decide +kernel
theorem dL_setSetpoint_2 : decode cL_setSetpoint 2 = .ok (.aload_n 0, 1) := by decide +kernel
theorem dL_setSetpoint_3 : decode cL_setSetpoint 3 = .ok (.iload_n 1, 1) := by decide +kernel
theorem dL_setSetpoint_4 : decode cL_setSetpoint 4 = .ok (.iload_n 2, 1) := by decide +kernel
theorem dL_setSetpoint_5 : decode cL_setSetpoint 5 = .ok (.invokevirtual 39, 3) := by decide +kernel
theorem dL_setSetpoint_8 : decode cL_setSetpoint 8 = .ok (.i2l, 1) := by decide +kernel
theorem dL_setSetpoint_9 : decode cL_setSetpoint 9 = .ok (.lastore, 1) := by decide +kernel
theorem dL_setSetpoint_10 : decode cL_setSetpoint 10 = .ok (.goto 15, 3) := by decide +kernel
theorem dL_setSetpoint_13 : decode cL_setSetpoint 13 = .ok (.astore 4, 2) := by decide +kernel
theorem dL_setSetpoint_15 : decode cL_setSetpoint 15 = .ok (.iconst 1, 1) := by decide +kernel
theorem dL_setSetpoint_16 : decode cL_setSetpoint 16 = .ok (.ireturn, 1) := by decide +kernel
theorem dL_setSetpoint_17 : decode cL_setSetpoint 17 = .ok (.astore 4, 2) := by decide +kernel
theorem dL_setSetpoint_19 : decode cL_setSetpoint 19 = .ok (.iconst 2, 1) := by decide +kernel
theorem dL_setSetpoint_20 : decode cL_setSetpoint 20 = .ok (.ireturn, 1) := by decide +kernel
theorem dL_setSetpoint_21 : decode cL_setSetpoint 21 = .ok (.astore 4, 2) := by decide +kernel
theorem dL_setSetpoint_23 : decode cL_setSetpoint 23 = .ok (.iconst 3, 1) := by decide +kernel
theorem dL_setSetpoint_24 : decode cL_setSetpoint 24 = .ok (.ireturn, 1) := by decide +kernel
theorem dL_setSetpoint_25 : decode cL_setSetpoint 25 = .ok (.iconst 0, 1) := by decide +kernel
theorem dL_setSetpoint_26 : decode cL_setSetpoint 26 = .ok (.ireturn, 1) := by decide +kernel
theorem dL_setHand_0 : decode cL_setHand 0 = .ok (.aload_n 3, 1) := by decide +kernel
theorem dL_setHand_1 : decode cL_setHand 1 = .ok (.iconst 0, 1) := by decide +kernel
theorem dL_setHand_2 : decode cL_setHand 2 = .ok (.aload_n 0, 1) := by decide +kernel
theorem dL_setHand_3 : decode cL_setHand 3 = .ok (.iload_n 1, 1) := by decide +kernel
theorem dL_setHand_4 : decode cL_setHand 4 = .ok (.iload_n 2, 1) := by decide +kernel
theorem dL_setHand_5 : decode cL_setHand 5 = .ok (.invokevirtual 42, 3) := by decide +kernel
theorem dL_setHand_8 : decode cL_setHand 8 = .ok (.i2l, 1) := by decide +kernel
theorem dL_setHand_9 : decode cL_setHand 9 = .ok (.lastore, 1) := by decide +kernel
theorem dL_setHand_10 : decode cL_setHand 10 = .ok (.goto 15, 3) := by decide +kernel
theorem dL_setHand_13 : decode cL_setHand 13 = .ok (.astore 4, 2) := by decide +kernel
theorem dL_setHand_15 : decode cL_setHand 15 = .ok (.iconst 1, 1) := by decide +kernel
theorem dL_setHand_16 : decode cL_setHand 16 = .ok (.ireturn, 1) := by decide +kernel
theorem dL_setHand_17 : decode cL_setHand 17 = .ok (.astore 4, 2) := by decide +kernel
theorem dL_setHand_19 : decode cL_setHand 19 = .ok (.iconst 2, 1) := by decide +kernel
theorem dL_setHand_20 : decode cL_setHand 20 = .ok (.ireturn, 1) := by decide +kernel
theorem dL_setHand_21 : decode cL_setHand 21 = .ok (.astore 4, 2) := by decide +kernel
theorem dL_setHand_23 : decode cL_setHand 23 = .ok (.iconst 3, 1) := by decide +kernel
theorem dL_setHand_24 : decode cL_setHand 24 = .ok (.ireturn, 1) := by decide +kernel
theorem dL_setHand_25 : decode cL_setHand 25 = .ok (.iconst 0, 1) := by decide +kernel
theorem dL_setHand_26 : decode cL_setHand 26 = .ok (.ireturn, 1) := by decide +kernel
theorem dL_setTies_0 : decode cL_setTies 0 = .ok (.aload_n 0, 1) := by decide +kernel
theorem dL_setTies_1 : decode cL_setTies 1 = .ok (.iload_n 1, 1) := by decide +kernel
theorem dL_setTies_2 : decode cL_setTies 2 = .ok (.iload_n 2, 1) := by decide +kernel
theorem dL_setTies_3 : decode cL_setTies 3 = .ok (.iload_n 3, 1) := by decide +kernel
theorem dL_setTies_4 : decode cL_setTies 4 = .ok (.invokevirtual 45, 3) := by decide +kernel
theorem dL_setTies_7 : decode cL_setTies 7 = .ok (.goto 15, 3) := by decide +kernel
theorem dL_setTies_10 : decode cL_setTies 10 = .ok (.astore 4, 2) := by decide +kernel
theorem dL_setTies_12 : decode cL_setTies 12 = .ok (.iconst 1, 1) := by decide +kernel
theorem dL_setTies_13 : decode cL_setTies 13 = .ok (.ireturn, 1) := by decide +kernel
theorem dL_setTies_14 : decode cL_setTies 14 = .ok (.astore 4, 2) := by decide +kernel
theorem dL_setTies_16 : decode cL_setTies 16 = .ok (.iconst 2, 1) := by decide +kernel
theorem dL_setTies_17 : decode cL_setTies 17 = .ok (.ireturn, 1) := by decide +kernel
theorem dL_setTies_18 : decode cL_setTies 18 = .ok (.astore 4, 2) := by decide +kernel
theorem dL_setTies_20 : decode cL_setTies 20 = .ok (.iconst 3, 1) := by decide +kernel
theorem dL_setTies_21 : decode cL_setTies 21 = .ok (.ireturn, 1) := by decide +kernel
theorem dL_setTies_22 : decode cL_setTies 22 = .ok (.iconst 0, 1) := by decide +kernel
theorem dL_setTies_23 : decode cL_setTies 23 = .ok (.ireturn, 1) := by decide +kernel
theorem dL_setMode_0 : decode cL_setMode 0 = .ok (.aload_n 3, 1) := by decide +kernel
theorem dL_setMode_1 : decode cL_setMode 1 = .ok (.iconst 0, 1) := by decide +kernel
theorem dL_setMode_2 : decode cL_setMode 2 = .ok (.aload_n 0, 1) := by decide +kernel
theorem dL_setMode_3 : decode cL_setMode 3 = .ok (.iload_n 1, 1) := by decide +kernel
theorem dL_setMode_4 : decode cL_setMode 4 = .ok (.iload_n 2, 1) := by decide +kernel
theorem dL_setMode_5 : decode cL_setMode 5 = .ok (.invokevirtual 49, 3) := by decide +kernel
theorem dL_setMode_8 : decode cL_setMode 8 = .ok (.i2l, 1) := by decide +kernel
theorem dL_setMode_9 : decode cL_setMode 9 = .ok (.lastore, 1) := by decide +kernel
theorem dL_setMode_10 : decode cL_setMode 10 = .ok (.goto 15, 3) := by decide +kernel
theorem dL_setMode_13 : decode cL_setMode 13 = .ok (.astore 4, 2) := by decide +kernel
theorem dL_setMode_15 : decode cL_setMode 15 = .ok (.iconst 1, 1) := by decide +kernel
theorem dL_setMode_16 : decode cL_setMode 16 = .ok (.ireturn, 1) := by decide +kernel
theorem dL_setMode_17 : decode cL_setMode 17 = .ok (.astore 4, 2) := by decide +kernel
theorem dL_setMode_19 : decode cL_setMode 19 = .ok (.iconst 2, 1) := by decide +kernel
theorem dL_setMode_20 : decode cL_setMode 20 = .ok (.ireturn, 1) := by decide +kernel
theorem dL_setMode_21 : decode cL_setMode 21 = .ok (.astore 4, 2) := by decide +kernel
theorem dL_setMode_23 : decode cL_setMode 23 = .ok (.iconst 3, 1) := by decide +kernel
theorem dL_setMode_24 : decode cL_setMode 24 = .ok (.ireturn, 1) := by decide +kernel
theorem dL_setMode_25 : decode cL_setMode 25 = .ok (.iconst 0, 1) := by decide +kernel
theorem dL_setMode_26 : decode cL_setMode 26 = .ok (.ireturn, 1) := by decide +kernel
theorem dL_run_0 : decode cL_run 0 = .ok (.aload_n 2, 1) := by decide +kernel
theorem dL_run_1 : decode cL_run 1 = .ok (.iconst 0, 1) := by decide +kernel
theorem dL_run_2 : decode cL_run 2 = .ok (.aload_n 0, 1) := by decide +kernel
theorem dL_run_3 : decode cL_run 3 = .ok (.iload_n 1, 1) := by decide +kernel
theorem dL_run_4 : decode cL_run 4 = .ok (.invokevirtual 52, 3) := by decide +kernel
theorem dL_run_7 : decode cL_run 7 = .ok (.i2l, 1) := by decide +kernel
theorem dL_run_8 : decode cL_run 8 = .ok (.lastore, 1) := by decide +kernel
theorem dL_run_9 : decode cL_run 9 = .ok (.goto 6, 3) := by decide +kernel
theorem dL_run_12 : decode cL_run 12 = .ok (.astore_n 3, 1) := by decide +kernel
theorem dL_run_13 : decode cL_run 13 = .ok (.iconst 1, 1) := by decide +kernel
theorem dL_run_14 : decode cL_run 14 = .ok (.ireturn, 1) := by decide +kernel
theorem dL_run_15 : decode cL_run 15 = .ok (.iconst 0, 1) := by decide +kernel
theorem dL_run_16 : decode cL_run 16 = .ok (.ireturn, 1) := by decide +kernel
theorem dL_measure_0 : decode cL_measure 0 = .ok (.aload_n 2, 1) := by decide +kernel
theorem dL_measure_1 : decode cL_measure 1 = .ok (.iconst 0, 1) := by decide +kernel
theorem dL_measure_2 : decode cL_measure 2 = .ok (.aload_n 0, 1) := by decide +kernel
theorem dL_measure_3 : decode cL_measure 3 = .ok (.iload_n 1, 1) := by decide +kernel
theorem dL_measure_4 : decode cL_measure 4 = .ok (.invokevirtual 56, 3) := by decide +kernel
theorem dL_measure_7 : decode cL_measure 7 = .ok (.lastore, 1) := by decide +kernel
theorem dL_measure_8 : decode cL_measure 8 = .ok (.goto 6, 3) := by decide +kernel
theorem dL_measure_11 : decode cL_measure 11 = .ok (.astore_n 3, 1) := by decide +kernel
theorem dL_measure_12 : decode cL_measure 12 = .ok (.iconst 1, 1) := by decide +kernel
theorem dL_measure_13 : decode cL_measure 13 = .ok (.ireturn, 1) := by decide +kernel
theorem dL_measure_14 : decode cL_measure 14 = .ok (.iconst 0, 1) := by decide +kernel
theorem dL_measure_15 : decode cL_measure 15 = .ok (.ireturn, 1) := by decide +kernel
theorem dL_output_0 : decode cL_output 0 = .ok (.aload_n 2, 1) := by decide +kernel
theorem dL_output_1 : decode cL_output 1 = .ok (.iconst 0, 1) := by decide +kernel
theorem dL_output_2 : decode cL_output 2 = .ok (.aload_n 0, 1) := by decide +kernel
theorem dL_output_3 : decode cL_output 3 = .ok (.iload_n 1, 1) := by decide +kernel
theorem dL_output_4 : decode cL_output 4 = .ok (.invokevirtual 60, 3) := by decide +kernel
theorem dL_output_7 : decode cL_output 7 = .ok (.lastore, 1) := by decide +kernel
theorem dL_output_8 : decode cL_output 8 = .ok (.goto 6, 3) := by decide +kernel
theorem dL_output_11 : decode cL_output 11 = .ok (.astore_n 3, 1) := by decide +kernel
theorem dL_output_12 : decode cL_output 12 = .ok (.iconst 1, 1) := by decide +kernel
theorem dL_output_13 : decode cL_output 13 = .ok (.ireturn, 1) := by decide +kernel
theorem dL_output_14 : decode cL_output 14 = .ok (.iconst 0, 1) := by decide +kernel
theorem dL_output_15 : decode cL_output 15 = .ok (.ireturn, 1) := by decide +kernel
theorem dL_outputByIncrements_0 : decode cL_outputByIncrements 0 = .ok (.aload_n 2, 1) := by decide +kernel
theorem dL_outputByIncrements_1 : decode cL_outputByIncrements 1 = .ok (.iconst 0, 1) := by decide +kernel
theorem dL_outputByIncrements_2 : decode cL_outputByIncrements 2 = .ok (.aload_n 0, 1) := by decide +kernel
theorem dL_outputByIncrements_3 : decode cL_outputByIncrements 3 = .ok (.iload_n 1, 1) := by decide +kernel
theorem dL_outputByIncrements_4 : decode cL_outputByIncrements 4 = .ok (.invokevirtual 63, 3) := by decide +kernel
theorem dL_outputByIncrements_7 : decode cL_outputByIncrements 7 = .ok (.lastore, 1) := by decide +kernel
theorem dL_outputByIncrements_8 : decode cL_outputByIncrements 8 = .ok (.goto 6, 3) := by decide +kernel
theorem dL_outputByIncrements_11 : decode cL_outputByIncrements 11 = .ok (.astore_n 3, 1) := by decide +kernel
theorem dL_outputByIncrements_12 : decode cL_outputByIncrements 12 = .ok (.iconst 1, 1) := by decide +kernel
theorem dL_outputByIncrements_13 : decode cL_outputByIncrements 13 = .ok (.ireturn, 1) := by decide +kernel
theorem dL_outputByIncrements_14 : decode cL_outputByIncrements 14 = .ok (.iconst 0, 1) := by decide +kernel
theorem dL_outputByIncrements_15 : decode cL_outputByIncrements 15 = .ok (.ireturn, 1) := by decide +kernel
theorem dL_setpoint_0 : decode cL_setpoint 0 = .ok (.aload_n 2, 1) := by decide +kernel
theorem dL_setpoint_1 : decode cL_setpoint 1 = .ok (.iconst 0, 1) := by decide +kernel
theorem dL_setpoint_2 : decode cL_setpoint 2 = .ok (.aload_n 0, 1) := by decide +kernel
theorem dL_setpoint_3 : decode cL_setpoint 3 = .ok (.iload_n 1, 1) := by decide +kernel
theorem dL_setpoint_4 : decode cL_setpoint 4 = .ok (.invokevirtual 66, 3) := by decide +kernel
theorem dL_setpoint_7 : decode cL_setpoint 7 = .ok (.lastore, 1) := by decide +kernel
theorem dL_setpoint_8 : decode cL_setpoint 8 = .ok (.goto 6, 3) := by decide +kernel
theorem dL_setpoint_11 : decode cL_setpoint 11 = .ok (.astore_n 3, 1) := by decide +kernel
theorem dL_setpoint_12 : decode cL_setpoint 12 = .ok (.iconst 1, 1) := by decide +kernel
theorem dL_setpoint_13 : decode cL_setpoint 13 = .ok (.ireturn, 1) := by decide +kernel
theorem dL_setpoint_14 : decode cL_setpoint 14 = .ok (.iconst 0, 1) := by decide +kernel
theorem dL_setpoint_15 : decode cL_setpoint 15 = .ok (.ireturn, 1) := by decide +kernel
theorem dL_integral_0 : decode cL_integral 0 = .ok (.aload_n 2, 1) := by decide +kernel
theorem dL_integral_1 : decode cL_integral 1 = .ok (.iconst 0, 1) := by decide +kernel
theorem dL_integral_2 : decode cL_integral 2 = .ok (.aload_n 0, 1) := by decide +kernel
theorem dL_integral_3 : decode cL_integral 3 = .ok (.iload_n 1, 1) := by decide +kernel
theorem dL_integral_4 : decode cL_integral 4 = .ok (.invokevirtual 69, 3) := by decide +kernel
theorem dL_integral_7 : decode cL_integral 7 = .ok (.lastore, 1) := by decide +kernel
theorem dL_integral_8 : decode cL_integral 8 = .ok (.goto 6, 3) := by decide +kernel
theorem dL_integral_11 : decode cL_integral 11 = .ok (.astore_n 3, 1) := by decide +kernel
theorem dL_integral_12 : decode cL_integral 12 = .ok (.iconst 1, 1) := by decide +kernel
theorem dL_integral_13 : decode cL_integral 13 = .ok (.ireturn, 1) := by decide +kernel
theorem dL_integral_14 : decode cL_integral 14 = .ok (.iconst 0, 1) := by decide +kernel
theorem dL_integral_15 : decode cL_integral 15 = .ok (.ireturn, 1) := by decide +kernel
theorem dL_gain_0 : decode cL_gain 0 = .ok (.aload_n 3, 1) := by decide +kernel
theorem dL_gain_1 : decode cL_gain 1 = .ok (.iconst 0, 1) := by decide +kernel
theorem dL_gain_2 : decode cL_gain 2 = .ok (.aload_n 0, 1) := by decide +kernel
theorem dL_gain_3 : decode cL_gain 3 = .ok (.iload_n 1, 1) := by decide +kernel
theorem dL_gain_4 : decode cL_gain 4 = .ok (.iload_n 2, 1) := by decide +kernel
theorem dL_gain_5 : decode cL_gain 5 = .ok (.invokevirtual 72, 3) := by decide +kernel
theorem dL_gain_8 : decode cL_gain 8 = .ok (.i2l, 1) := by decide +kernel
theorem dL_gain_9 : decode cL_gain 9 = .ok (.lastore, 1) := by decide +kernel
theorem dL_gain_10 : decode cL_gain 10 = .ok (.goto 7, 3) := by decide +kernel
theorem dL_gain_13 : decode cL_gain 13 = .ok (.astore 4, 2) := by decide +kernel
theorem dL_gain_15 : decode cL_gain 15 = .ok (.iconst 1, 1) := by decide +kernel
theorem dL_gain_16 : decode cL_gain 16 = .ok (.ireturn, 1) := by decide +kernel
theorem dL_gain_17 : decode cL_gain 17 = .ok (.iconst 0, 1) := by decide +kernel
theorem dL_gain_18 : decode cL_gain 18 = .ok (.ireturn, 1) := by decide +kernel
theorem dL_mode_0 : decode cL_mode 0 = .ok (.aload_n 2, 1) := by decide +kernel
theorem dL_mode_1 : decode cL_mode 1 = .ok (.iconst 0, 1) := by decide +kernel
theorem dL_mode_2 : decode cL_mode 2 = .ok (.aload_n 0, 1) := by decide +kernel
theorem dL_mode_3 : decode cL_mode 3 = .ok (.iload_n 1, 1) := by decide +kernel
theorem dL_mode_4 : decode cL_mode 4 = .ok (.invokevirtual 75, 3) := by decide +kernel
theorem dL_mode_7 : decode cL_mode 7 = .ok (.i2l, 1) := by decide +kernel
theorem dL_mode_8 : decode cL_mode 8 = .ok (.lastore, 1) := by decide +kernel
theorem dL_mode_9 : decode cL_mode 9 = .ok (.goto 6, 3) := by decide +kernel
theorem dL_mode_12 : decode cL_mode 12 = .ok (.astore_n 3, 1) := by decide +kernel
theorem dL_mode_13 : decode cL_mode 13 = .ok (.iconst 1, 1) := by decide +kernel
theorem dL_mode_14 : decode cL_mode 14 = .ok (.ireturn, 1) := by decide +kernel
theorem dL_mode_15 : decode cL_mode 15 = .ok (.iconst 0, 1) := by decide +kernel
theorem dL_mode_16 : decode cL_mode 16 = .ok (.ireturn, 1) := by decide +kernel
theorem dL_wasStarved_0 : decode cL_wasStarved 0 = .ok (.aload_n 2, 1) := by decide +kernel
theorem dL_wasStarved_1 : decode cL_wasStarved 1 = .ok (.iconst 0, 1) := by decide +kernel
theorem dL_wasStarved_2 : decode cL_wasStarved 2 = .ok (.aload_n 0, 1) := by decide +kernel
theorem dL_wasStarved_3 : decode cL_wasStarved 3 = .ok (.iload_n 1, 1) := by decide +kernel
theorem dL_wasStarved_4 : decode cL_wasStarved 4 = .ok (.invokevirtual 78, 3) := by decide +kernel
theorem dL_wasStarved_7 : decode cL_wasStarved 7 = .ok (.ifCond .eq 7, 3) := by decide +kernel
theorem dL_wasStarved_10 : decode cL_wasStarved 10 = .ok (.lconst 1, 1) := by decide +kernel
theorem dL_wasStarved_11 : decode cL_wasStarved 11 = .ok (.goto 4, 3) := by decide +kernel
theorem dL_wasStarved_14 : decode cL_wasStarved 14 = .ok (.lconst 0, 1) := by decide +kernel
theorem dL_wasStarved_15 : decode cL_wasStarved 15 = .ok (.lastore, 1) := by decide +kernel
theorem dL_wasStarved_16 : decode cL_wasStarved 16 = .ok (.goto 6, 3) := by decide +kernel
theorem dL_wasStarved_19 : decode cL_wasStarved 19 = .ok (.astore_n 3, 1) := by decide +kernel
theorem dL_wasStarved_20 : decode cL_wasStarved 20 = .ok (.iconst 1, 1) := by decide +kernel
theorem dL_wasStarved_21 : decode cL_wasStarved 21 = .ok (.ireturn, 1) := by decide +kernel
theorem dL_wasStarved_22 : decode cL_wasStarved 22 = .ok (.iconst 0, 1) := by decide +kernel
theorem dL_wasStarved_23 : decode cL_wasStarved 23 = .ok (.ireturn, 1) := by decide +kernel
theorem dL_held_0 : decode cL_held 0 = .ok (.aload_n 2, 1) := by decide +kernel
theorem dL_held_1 : decode cL_held 1 = .ok (.iconst 0, 1) := by decide +kernel
theorem dL_held_2 : decode cL_held 2 = .ok (.aload_n 0, 1) := by decide +kernel
theorem dL_held_3 : decode cL_held 3 = .ok (.iload_n 1, 1) := by decide +kernel
theorem dL_held_4 : decode cL_held 4 = .ok (.invokevirtual 82, 3) := by decide +kernel
theorem dL_held_7 : decode cL_held 7 = .ok (.i2l, 1) := by decide +kernel
theorem dL_held_8 : decode cL_held 8 = .ok (.lastore, 1) := by decide +kernel
theorem dL_held_9 : decode cL_held 9 = .ok (.goto 6, 3) := by decide +kernel
theorem dL_held_12 : decode cL_held 12 = .ok (.astore_n 3, 1) := by decide +kernel
theorem dL_held_13 : decode cL_held 13 = .ok (.iconst 1, 1) := by decide +kernel
theorem dL_held_14 : decode cL_held 14 = .ok (.ireturn, 1) := by decide +kernel
theorem dL_held_15 : decode cL_held 15 = .ok (.iconst 0, 1) := by decide +kernel
theorem dL_held_16 : decode cL_held 16 = .ok (.ireturn, 1) := by decide +kernel
theorem dL_startRelay_0 : decode cL_startRelay 0 = .ok (.aload_n 0, 1) := by decide +kernel
theorem dL_startRelay_1 : decode cL_startRelay 1 = .ok (.iload_n 1, 1) := by decide +kernel
theorem dL_startRelay_2 : decode cL_startRelay 2 = .ok (.iload_n 2, 1) := by decide +kernel
theorem dL_startRelay_3 : decode cL_startRelay 3 = .ok (.iload_n 3, 1) := by decide +kernel
theorem dL_startRelay_4 : decode cL_startRelay 4 = .ok (.invokevirtual 85, 3) := by decide +kernel
theorem dL_startRelay_7 : decode cL_startRelay 7 = .ok (.goto 15, 3) := by decide +kernel
theorem dL_startRelay_10 : decode cL_startRelay 10 = .ok (.astore 4, 2) := by decide +kernel
theorem dL_startRelay_12 : decode cL_startRelay 12 = .ok (.iconst 1, 1) := by decide +kernel
theorem dL_startRelay_13 : decode cL_startRelay 13 = .ok (.ireturn, 1) := by decide +kernel
theorem dL_startRelay_14 : decode cL_startRelay 14 = .ok (.astore 4, 2) := by decide +kernel
theorem dL_startRelay_16 : decode cL_startRelay 16 = .ok (.iconst 2, 1) := by decide +kernel
theorem dL_startRelay_17 : decode cL_startRelay 17 = .ok (.ireturn, 1) := by decide +kernel
theorem dL_startRelay_18 : decode cL_startRelay 18 = .ok (.astore 4, 2) := by decide +kernel
theorem dL_startRelay_20 : decode cL_startRelay 20 = .ok (.iconst 3, 1) := by decide +kernel
theorem dL_startRelay_21 : decode cL_startRelay 21 = .ok (.ireturn, 1) := by decide +kernel
theorem dL_startRelay_22 : decode cL_startRelay 22 = .ok (.iconst 0, 1) := by decide +kernel
theorem dL_startRelay_23 : decode cL_startRelay 23 = .ok (.ireturn, 1) := by decide +kernel
theorem dL_experiment_0 : decode cL_experiment 0 = .ok (.aload_n 2, 1) := by decide +kernel
theorem dL_experiment_1 : decode cL_experiment 1 = .ok (.iconst 0, 1) := by decide +kernel
theorem dL_experiment_2 : decode cL_experiment 2 = .ok (.aload_n 0, 1) := by decide +kernel
theorem dL_experiment_3 : decode cL_experiment 3 = .ok (.iload_n 1, 1) := by decide +kernel
theorem dL_experiment_4 : decode cL_experiment 4 = .ok (.invokevirtual 88, 3) := by decide +kernel
theorem dL_experiment_7 : decode cL_experiment 7 = .ok (.i2l, 1) := by decide +kernel
theorem dL_experiment_8 : decode cL_experiment 8 = .ok (.lastore, 1) := by decide +kernel
theorem dL_experiment_9 : decode cL_experiment 9 = .ok (.goto 6, 3) := by decide +kernel
theorem dL_experiment_12 : decode cL_experiment 12 = .ok (.astore_n 3, 1) := by decide +kernel
theorem dL_experiment_13 : decode cL_experiment 13 = .ok (.iconst 1, 1) := by decide +kernel
theorem dL_experiment_14 : decode cL_experiment 14 = .ok (.ireturn, 1) := by decide +kernel
theorem dL_experiment_15 : decode cL_experiment 15 = .ok (.iconst 0, 1) := by decide +kernel
theorem dL_experiment_16 : decode cL_experiment 16 = .ok (.ireturn, 1) := by decide +kernel
theorem dL_period_0 : decode cL_period 0 = .ok (.aload_n 2, 1) := by decide +kernel
theorem dL_period_1 : decode cL_period 1 = .ok (.iconst 0, 1) := by decide +kernel
theorem dL_period_2 : decode cL_period 2 = .ok (.aload_n 0, 1) := by decide +kernel
theorem dL_period_3 : decode cL_period 3 = .ok (.iload_n 1, 1) := by decide +kernel
theorem dL_period_4 : decode cL_period 4 = .ok (.invokevirtual 91, 3) := by decide +kernel
theorem dL_period_7 : decode cL_period 7 = .ok (.i2l, 1) := by decide +kernel
theorem dL_period_8 : decode cL_period 8 = .ok (.lastore, 1) := by decide +kernel
theorem dL_period_9 : decode cL_period 9 = .ok (.goto 9, 3) := by decide +kernel
theorem dL_period_12 : decode cL_period 12 = .ok (.astore_n 3, 1) := by decide +kernel
theorem dL_period_13 : decode cL_period 13 = .ok (.iconst 1, 1) := by decide +kernel
theorem dL_period_14 : decode cL_period 14 = .ok (.ireturn, 1) := by decide +kernel
theorem dL_period_15 : decode cL_period 15 = .ok (.astore_n 3, 1) := by decide +kernel
theorem dL_period_16 : decode cL_period 16 = .ok (.iconst 2, 1) := by decide +kernel
theorem dL_period_17 : decode cL_period 17 = .ok (.ireturn, 1) := by decide +kernel
theorem dL_period_18 : decode cL_period 18 = .ok (.iconst 0, 1) := by decide +kernel
theorem dL_period_19 : decode cL_period 19 = .ok (.ireturn, 1) := by decide +kernel
theorem dL_swing_0 : decode cL_swing 0 = .ok (.aload_n 2, 1) := by decide +kernel
theorem dL_swing_1 : decode cL_swing 1 = .ok (.iconst 0, 1) := by decide +kernel
theorem dL_swing_2 : decode cL_swing 2 = .ok (.aload_n 0, 1) := by decide +kernel
theorem dL_swing_3 : decode cL_swing 3 = .ok (.iload_n 1, 1) := by decide +kernel
theorem dL_swing_4 : decode cL_swing 4 = .ok (.invokevirtual 94, 3) := by decide +kernel
theorem dL_swing_7 : decode cL_swing 7 = .ok (.lastore, 1) := by decide +kernel
theorem dL_swing_8 : decode cL_swing 8 = .ok (.goto 9, 3) := by decide +kernel
theorem dL_swing_11 : decode cL_swing 11 = .ok (.astore_n 3, 1) := by decide +kernel
theorem dL_swing_12 : decode cL_swing 12 = .ok (.iconst 1, 1) := by decide +kernel
theorem dL_swing_13 : decode cL_swing 13 = .ok (.ireturn, 1) := by decide +kernel
theorem dL_swing_14 : decode cL_swing 14 = .ok (.astore_n 3, 1) := by decide +kernel
theorem dL_swing_15 : decode cL_swing 15 = .ok (.iconst 2, 1) := by decide +kernel
theorem dL_swing_16 : decode cL_swing 16 = .ok (.ireturn, 1) := by decide +kernel
theorem dL_swing_17 : decode cL_swing 17 = .ok (.iconst 0, 1) := by decide +kernel
theorem dL_swing_18 : decode cL_swing 18 = .ok (.ireturn, 1) := by decide +kernel
theorem dL_ultimateGain_0 : decode cL_ultimateGain 0 = .ok (.aload_n 2, 1) := by decide +kernel
theorem dL_ultimateGain_1 : decode cL_ultimateGain 1 = .ok (.iconst 0, 1) := by decide +kernel
theorem dL_ultimateGain_2 : decode cL_ultimateGain 2 = .ok (.aload_n 0, 1) := by decide +kernel
theorem dL_ultimateGain_3 : decode cL_ultimateGain 3 = .ok (.iload_n 1, 1) := by decide +kernel
theorem dL_ultimateGain_4 : decode cL_ultimateGain 4 = .ok (.invokevirtual 97, 3) := by decide +kernel
theorem dL_ultimateGain_7 : decode cL_ultimateGain 7 = .ok (.i2l, 1) := by decide +kernel
theorem dL_ultimateGain_8 : decode cL_ultimateGain 8 = .ok (.lastore, 1) := by decide +kernel
theorem dL_ultimateGain_9 : decode cL_ultimateGain 9 = .ok (.goto 9, 3) := by decide +kernel
theorem dL_ultimateGain_12 : decode cL_ultimateGain 12 = .ok (.astore_n 3, 1) := by decide +kernel
theorem dL_ultimateGain_13 : decode cL_ultimateGain 13 = .ok (.iconst 1, 1) := by decide +kernel
theorem dL_ultimateGain_14 : decode cL_ultimateGain 14 = .ok (.ireturn, 1) := by decide +kernel
theorem dL_ultimateGain_15 : decode cL_ultimateGain 15 = .ok (.astore_n 3, 1) := by decide +kernel
theorem dL_ultimateGain_16 : decode cL_ultimateGain 16 = .ok (.iconst 2, 1) := by decide +kernel
theorem dL_ultimateGain_17 : decode cL_ultimateGain 17 = .ok (.ireturn, 1) := by decide +kernel
theorem dL_ultimateGain_18 : decode cL_ultimateGain 18 = .ok (.iconst 0, 1) := by decide +kernel
theorem dL_ultimateGain_19 : decode cL_ultimateGain 19 = .ok (.ireturn, 1) := by decide +kernel
theorem dL_proposed_0 : decode cL_proposed 0 = .ok (.aload 4, 2) := by decide +kernel
theorem dL_proposed_2 : decode cL_proposed 2 = .ok (.iconst 0, 1) := by decide +kernel
theorem dL_proposed_3 : decode cL_proposed 3 = .ok (.aload_n 0, 1) := by decide +kernel
theorem dL_proposed_4 : decode cL_proposed 4 = .ok (.iload_n 1, 1) := by decide +kernel
theorem dL_proposed_5 : decode cL_proposed 5 = .ok (.iload_n 2, 1) := by decide +kernel
theorem dL_proposed_6 : decode cL_proposed 6 = .ok (.iload_n 3, 1) := by decide +kernel
theorem dL_proposed_7 : decode cL_proposed 7 = .ok (.invokevirtual 100, 3) := by decide +kernel
theorem dL_proposed_10 : decode cL_proposed 10 = .ok (.i2l, 1) := by decide +kernel
theorem dL_proposed_11 : decode cL_proposed 11 = .ok (.lastore, 1) := by decide +kernel
theorem dL_proposed_12 : decode cL_proposed 12 = .ok (.goto 15, 3) := by decide +kernel
theorem dL_proposed_15 : decode cL_proposed 15 = .ok (.astore 5, 2) := by decide +kernel
theorem dL_proposed_17 : decode cL_proposed 17 = .ok (.iconst 1, 1) := by decide +kernel
theorem dL_proposed_18 : decode cL_proposed 18 = .ok (.ireturn, 1) := by decide +kernel
theorem dL_proposed_19 : decode cL_proposed 19 = .ok (.astore 5, 2) := by decide +kernel
theorem dL_proposed_21 : decode cL_proposed 21 = .ok (.iconst 2, 1) := by decide +kernel
theorem dL_proposed_22 : decode cL_proposed 22 = .ok (.ireturn, 1) := by decide +kernel
theorem dL_proposed_23 : decode cL_proposed 23 = .ok (.astore 5, 2) := by decide +kernel
theorem dL_proposed_25 : decode cL_proposed 25 = .ok (.iconst 3, 1) := by decide +kernel
theorem dL_proposed_26 : decode cL_proposed 26 = .ok (.ireturn, 1) := by decide +kernel
theorem dL_proposed_27 : decode cL_proposed 27 = .ok (.iconst 0, 1) := by decide +kernel
theorem dL_proposed_28 : decode cL_proposed 28 = .ok (.ireturn, 1) := by decide +kernel
