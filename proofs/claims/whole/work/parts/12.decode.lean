/-! decode rows: printed by wip/gen/names.py -/
theorem d_Alarm_init_47 : decode prog_2_method_1_code 47 = .ok (.putfield 38, 3) := by decide +kernel
theorem d_Alarm_init_50 : decode prog_2_method_1_code 50 = .ok (.return_, 1) := by decide +kernel
theorem d_Robot_suffer_0 : decode prog_5_method_2_code 0 = .ok (.iload_n 1, 1) := by decide +kernel
theorem d_Robot_suffer_1 : decode prog_5_method_2_code 1 = .ok (.iconst 1, 1) := by decide +kernel
theorem d_Robot_suffer_2 : decode prog_5_method_2_code 2 = .ok (.if_icmp .ne 16, 3) := by decide +kernel
theorem d_Robot_suffer_5 : decode prog_5_method_2_code 5 = .ok (.aload_n 0, 1) := by decide +kernel
theorem d_Robot_suffer_6 : decode prog_5_method_2_code 6 = .ok (.iconst 2, 1) := by decide +kernel
theorem d_Robot_suffer_7 : decode prog_5_method_2_code 7 = .ok (.putfield 9, 3) := by decide +kernel
theorem d_Robot_suffer_10 : decode prog_5_method_2_code 10 = .ok (.aload_n 0, 1) := by decide +kernel
theorem d_Robot_suffer_11 : decode prog_5_method_2_code 11 = .ok (.iload_n 2, 1) := by decide +kernel
theorem d_Robot_suffer_12 : decode prog_5_method_2_code 12 = .ok (.putfield 22, 3) := by decide +kernel
theorem d_Robot_suffer_15 : decode prog_5_method_2_code 15 = .ok (.goto 15, 3) := by decide +kernel
theorem d_Robot_suffer_18 : decode prog_5_method_2_code 18 = .ok (.aload_n 0, 1) := by decide +kernel
theorem d_Robot_suffer_19 : decode prog_5_method_2_code 19 = .ok (.getfield 9, 3) := by decide +kernel
theorem d_Robot_suffer_22 : decode prog_5_method_2_code 22 = .ok (.ifCond .ne 8, 3) := by decide +kernel
theorem d_Robot_suffer_25 : decode prog_5_method_2_code 25 = .ok (.aload_n 0, 1) := by decide +kernel
theorem d_Robot_suffer_26 : decode prog_5_method_2_code 26 = .ok (.iconst 1, 1) := by decide +kernel
theorem d_Robot_suffer_27 : decode prog_5_method_2_code 27 = .ok (.putfield 9, 3) := by decide +kernel
theorem d_Robot_suffer_30 : decode prog_5_method_2_code 30 = .ok (.iload_n 1, 1) := by decide +kernel
theorem d_Robot_suffer_31 : decode prog_5_method_2_code 31 = .ok (.iconst 2, 1) := by decide +kernel
theorem d_Robot_suffer_32 : decode prog_5_method_2_code 32 = .ok (.if_icmp .ne 8, 3) := by decide +kernel
theorem d_Robot_suffer_35 : decode prog_5_method_2_code 35 = .ok (.aload_n 0, 1) := by decide +kernel
theorem d_Robot_suffer_36 : decode prog_5_method_2_code 36 = .ok (.iconst (-1), 1) := by decide +kernel
theorem d_Robot_suffer_37 : decode prog_5_method_2_code 37 = .ok (.putfield 15, 3) := by decide +kernel
theorem d_Robot_suffer_40 : decode prog_5_method_2_code 40 = .ok (.iload_n 3, 1) := by decide +kernel
theorem d_Robot_suffer_41 : decode prog_5_method_2_code 41 = .ok (.ifCond .eq 8, 3) := by decide +kernel
theorem d_Robot_suffer_44 : decode prog_5_method_2_code 44 = .ok (.aload_n 0, 1) := by decide +kernel
theorem d_Robot_suffer_45 : decode prog_5_method_2_code 45 = .ok (.iconst 1, 1) := by decide +kernel
theorem d_Robot_suffer_46 : decode prog_5_method_2_code 46 = .ok (.putfield 18, 3) := by decide +kernel
theorem d_Robot_suffer_49 : decode prog_5_method_2_code 49 = .ok (.return_, 1) := by decide +kernel
theorem d_Law_step_0 : decode method_10_code 0 = .ok (.aload_n 3, 1) := by decide +kernel
theorem d_Law_step_1 : decode method_10_code 1 = .ok (.iconst 0, 1) := by decide +kernel
theorem d_Law_step_2 : decode method_10_code 2 = .ok (.aload_n 0, 1) := by decide +kernel
theorem d_Law_step_3 : decode method_10_code 3 = .ok (.iload_n 1, 1) := by decide +kernel
theorem d_Law_step_4 : decode method_10_code 4 = .ok (.iload_n 2, 1) := by decide +kernel
theorem d_Law_step_5 : decode method_10_code 5 = .ok (.invokevirtual 43, 3) := by decide +kernel
theorem d_Law_step_8 : decode method_10_code 8 = .ok (.i2l, 1) := by decide +kernel
theorem d_Law_step_9 : decode method_10_code 9 = .ok (.lastore, 1) := by decide +kernel
theorem d_Law_step_10 : decode method_10_code 10 = .ok (.goto 15, 3) := by decide +kernel
theorem d_Law_step_13 : decode method_10_code 13 = .ok (.astore 4, 2) := by decide +kernel
theorem d_Law_step_15 : decode method_10_code 15 = .ok (.iconst 1, 1) := by decide +kernel
theorem d_Law_step_16 : decode method_10_code 16 = .ok (.ireturn, 1) := by decide +kernel
theorem d_Law_step_17 : decode method_10_code 17 = .ok (.astore 4, 2) := by decide +kernel
theorem d_Law_step_19 : decode method_10_code 19 = .ok (.iconst 2, 1) := by decide +kernel
theorem d_Law_step_20 : decode method_10_code 20 = .ok (.ireturn, 1) := by decide +kernel
theorem d_Law_step_21 : decode method_10_code 21 = .ok (.astore 4, 2) := by decide +kernel
theorem d_Law_step_23 : decode method_10_code 23 = .ok (.iconst 3, 1) := by decide +kernel
theorem d_Law_step_24 : decode method_10_code 24 = .ok (.ireturn, 1) := by decide +kernel
theorem d_Law_step_25 : decode method_10_code 25 = .ok (.iconst 0, 1) := by decide +kernel
theorem d_Law_step_26 : decode method_10_code 26 = .ok (.ireturn, 1) := by decide +kernel
theorem d_RF_step_0 : decode prog_1_method_9_code 0 = .ok (.aload_n 0, 1) := by decide +kernel
theorem d_RF_step_1 : decode prog_1_method_9_code 1 = .ok (.iload_n 1, 1) := by decide +kernel
theorem d_RF_step_2 : decode prog_1_method_9_code 2 = .ok (.invokevirtual 140, 3) := by decide +kernel
theorem d_RF_step_5 : decode prog_1_method_9_code 5 = .ok (.astore_n 3, 1) := by decide +kernel
theorem d_RF_step_6 : decode prog_1_method_9_code 6 = .ok (.iload_n 2, 1) := by decide +kernel
theorem d_RF_step_7 : decode prog_1_method_9_code 7 = .ok (.invokestatic 144, 3) := by decide +kernel
theorem d_RF_step_10 : decode prog_1_method_9_code 10 = .ok (.aload_n 3, 1) := by decide +kernel
theorem d_RF_step_11 : decode prog_1_method_9_code 11 = .ok (.invokevirtual 147, 3) := by decide +kernel
theorem d_RF_step_14 : decode prog_1_method_9_code 14 = .ok (.ifCond .ne 13, 3) := by decide +kernel
theorem d_RF_step_17 : decode prog_1_method_9_code 17 = .ok (.new 104, 3) := by decide +kernel
theorem d_RF_step_20 : decode prog_1_method_9_code 20 = .ok (.dup, 1) := by decide +kernel
theorem d_RF_step_21 : decode prog_1_method_9_code 21 = .ok (.ldc 150, 2) := by decide +kernel
theorem d_RF_step_23 : decode prog_1_method_9_code 23 = .ok (.invokespecial 108, 3) := by decide +kernel
theorem d_RF_step_26 : decode prog_1_method_9_code 26 = .ok (.athrow, 1) := by decide +kernel
theorem d_RF_step_27 : decode prog_1_method_9_code 27 = .ok (.aload_n 3, 1) := by decide +kernel
theorem d_RF_step_28 : decode prog_1_method_9_code 28 = .ok (.getfield 152, 3) := by decide +kernel
theorem d_RF_step_31 : decode prog_1_method_9_code 31 = .ok (.iload_n 2, 1) := by decide +kernel
theorem d_RF_step_32 : decode prog_1_method_9_code 32 = .ok (.invokestatic 155, 3) := by decide +kernel
theorem d_RF_step_35 : decode prog_1_method_9_code 35 = .ok (.ifCond .eq 5, 3) := by decide +kernel
theorem d_RF_step_38 : decode prog_1_method_9_code 38 = .ok (.iconst 2, 1) := by decide +kernel
theorem d_RF_step_39 : decode prog_1_method_9_code 39 = .ok (.ireturn, 1) := by decide +kernel
theorem d_RF_step_40 : decode prog_1_method_9_code 40 = .ok (.aload_n 3, 1) := by decide +kernel
theorem d_RF_step_41 : decode prog_1_method_9_code 41 = .ok (.iload_n 2, 1) := by decide +kernel
theorem d_RF_step_42 : decode prog_1_method_9_code 42 = .ok (.aload_n 0, 1) := by decide +kernel
theorem d_RF_step_43 : decode prog_1_method_9_code 43 = .ok (.getfield 158, 3) := by decide +kernel
theorem d_RF_step_46 : decode prog_1_method_9_code 46 = .ok (.invokevirtual 161, 3) := by decide +kernel
theorem d_RF_step_49 : decode prog_1_method_9_code 49 = .ok (.aload_n 3, 1) := by decide +kernel
theorem d_RF_step_50 : decode prog_1_method_9_code 50 = .ok (.invokevirtual 147, 3) := by decide +kernel
theorem d_RF_step_53 : decode prog_1_method_9_code 53 = .ok (.ifCond .eq 7, 3) := by decide +kernel
theorem d_RF_step_56 : decode prog_1_method_9_code 56 = .ok (.iconst 0, 1) := by decide +kernel
theorem d_RF_step_57 : decode prog_1_method_9_code 57 = .ok (.goto 4, 3) := by decide +kernel
theorem d_RF_step_60 : decode prog_1_method_9_code 60 = .ok (.iconst 1, 1) := by decide +kernel
theorem d_RF_step_61 : decode prog_1_method_9_code 61 = .ok (.ireturn, 1) := by decide +kernel
theorem d_RF_faultAt_0 : decode prog_1_method_25_code 0 = .ok (.iload_n 1, 1) := by decide +kernel
theorem d_RF_faultAt_1 : decode prog_1_method_25_code 1 = .ok (.iconst 1, 1) := by decide +kernel
theorem d_RF_faultAt_2 : decode prog_1_method_25_code 2 = .ok (.if_icmp .lt 23, 3) := by decide +kernel
theorem d_RF_faultAt_5 : decode prog_1_method_25_code 5 = .ok (.iload_n 1, 1) := by decide +kernel
theorem d_RF_faultAt_6 : decode prog_1_method_25_code 6 = .ok (.aload_n 0, 1) := by decide +kernel
theorem d_RF_faultAt_7 : decode prog_1_method_25_code 7 = .ok (.getfield 30, 3) := by decide +kernel
theorem d_RF_faultAt_10 : decode prog_1_method_25_code 10 = .ok (.arraylength, 1) := by decide +kernel
theorem d_RF_faultAt_11 : decode prog_1_method_25_code 11 = .ok (.if_icmp .gt 14, 3) := by decide +kernel
theorem d_RF_faultAt_14 : decode prog_1_method_25_code 14 = .ok (.aload_n 0, 1) := by decide +kernel
theorem d_RF_faultAt_15 : decode prog_1_method_25_code 15 = .ok (.getfield 30, 3) := by decide +kernel
theorem d_RF_faultAt_18 : decode prog_1_method_25_code 18 = .ok (.iload_n 1, 1) := by decide +kernel
theorem d_RF_faultAt_19 : decode prog_1_method_25_code 19 = .ok (.iconst 1, 1) := by decide +kernel
theorem d_RF_faultAt_20 : decode prog_1_method_25_code 20 = .ok (.isub, 1) := by decide +kernel
theorem d_RF_faultAt_21 : decode prog_1_method_25_code 21 = .ok (.aaload, 1) := by decide +kernel
theorem d_RF_faultAt_22 : decode prog_1_method_25_code 22 = .ok (.goto 4, 3) := by decide +kernel
theorem d_RF_faultAt_25 : decode prog_1_method_25_code 25 = .ok (.aconst_null, 1) := by decide +kernel
theorem d_RF_faultAt_26 : decode prog_1_method_25_code 26 = .ok (.astore_n 2, 1) := by decide +kernel
theorem d_RF_faultAt_27 : decode prog_1_method_25_code 27 = .ok (.aload_n 2, 1) := by decide +kernel
theorem d_RF_faultAt_28 : decode prog_1_method_25_code 28 = .ok (.ifnonnull 14, 3) := by decide +kernel
theorem d_RF_faultAt_31 : decode prog_1_method_25_code 31 = .ok (.new 302, 3) := by decide +kernel
theorem d_RF_faultAt_34 : decode prog_1_method_25_code 34 = .ok (.dup, 1) := by decide +kernel
theorem d_RF_faultAt_35 : decode prog_1_method_25_code 35 = .ok (.ldc_w 309, 3) := by decide +kernel
theorem d_RF_faultAt_38 : decode prog_1_method_25_code 38 = .ok (.invokespecial 306, 3) := by decide +kernel
theorem d_RF_faultAt_41 : decode prog_1_method_25_code 41 = .ok (.athrow, 1) := by decide +kernel
theorem d_RF_faultAt_42 : decode prog_1_method_25_code 42 = .ok (.aload_n 2, 1) := by decide +kernel
theorem d_RF_faultAt_43 : decode prog_1_method_25_code 43 = .ok (.areturn, 1) := by decide +kernel
theorem d_RF_needPerson_0 : decode prog_1_method_28_code 0 = .ok (.iload_n 0, 1) := by decide +kernel
theorem d_RF_needPerson_1 : decode prog_1_method_28_code 1 = .ok (.ifCond .lt 9, 3) := by decide +kernel
theorem d_RF_needPerson_4 : decode prog_1_method_28_code 4 = .ok (.iload_n 0, 1) := by decide +kernel
theorem d_RF_needPerson_5 : decode prog_1_method_28_code 5 = .ok (.bipush 8, 2) := by decide +kernel
theorem d_RF_needPerson_7 : decode prog_1_method_28_code 7 = .ok (.if_icmp .lt 14, 3) := by decide +kernel
theorem d_RF_needPerson_10 : decode prog_1_method_28_code 10 = .ok (.new 66, 3) := by decide +kernel
theorem d_RF_needPerson_13 : decode prog_1_method_28_code 13 = .ok (.dup, 1) := by decide +kernel
theorem d_RF_needPerson_14 : decode prog_1_method_28_code 14 = .ok (.ldc_w 315, 3) := by decide +kernel
theorem d_RF_needPerson_17 : decode prog_1_method_28_code 17 = .ok (.invokespecial 70, 3) := by decide +kernel
theorem d_RF_needPerson_20 : decode prog_1_method_28_code 20 = .ok (.athrow, 1) := by decide +kernel
theorem d_RF_needPerson_21 : decode prog_1_method_28_code 21 = .ok (.return_, 1) := by decide +kernel
theorem d_Fault_addStep_0 : decode prog_3_method_3_code 0 = .ok (.aload_n 0, 1) := by decide +kernel
theorem d_Fault_addStep_1 : decode prog_3_method_3_code 1 = .ok (.dup, 1) := by decide +kernel
theorem d_Fault_addStep_2 : decode prog_3_method_3_code 2 = .ok (.getfield 15, 3) := by decide +kernel
theorem d_Fault_addStep_5 : decode prog_3_method_3_code 5 = .ok (.iconst 1, 1) := by decide +kernel
theorem d_Fault_addStep_6 : decode prog_3_method_3_code 6 = .ok (.iload_n 1, 1) := by decide +kernel
theorem d_Fault_addStep_7 : decode prog_3_method_3_code 7 = .ok (.ishl, 1) := by decide +kernel
theorem d_Fault_addStep_8 : decode prog_3_method_3_code 8 = .ok (.ior, 1) := by decide +kernel
theorem d_Fault_addStep_9 : decode prog_3_method_3_code 9 = .ok (.putfield 15, 3) := by decide +kernel
theorem d_Fault_addStep_12 : decode prog_3_method_3_code 12 = .ok (.aload_n 0, 1) := by decide +kernel
theorem d_Fault_addStep_13 : decode prog_3_method_3_code 13 = .ok (.getfield 15, 3) := by decide +kernel
theorem d_Fault_addStep_16 : decode prog_3_method_3_code 16 = .ok (.invokestatic 53, 3) := by decide +kernel
theorem d_Fault_addStep_19 : decode prog_3_method_3_code 19 = .ok (.aload_n 0, 1) := by decide +kernel
theorem d_Fault_addStep_20 : decode prog_3_method_3_code 20 = .ok (.getfield 34, 3) := by decide +kernel
theorem d_Fault_addStep_23 : decode prog_3_method_3_code 23 = .ok (.if_icmp .lt 8, 3) := by decide +kernel
theorem d_Fault_addStep_26 : decode prog_3_method_3_code 26 = .ok (.aload_n 0, 1) := by decide +kernel
theorem d_Fault_addStep_27 : decode prog_3_method_3_code 27 = .ok (.iload_n 2, 1) := by decide +kernel
theorem d_Fault_addStep_28 : decode prog_3_method_3_code 28 = .ok (.putfield 18, 3) := by decide +kernel
theorem d_Fault_addStep_31 : decode prog_3_method_3_code 31 = .ok (.return_, 1) := by decide +kernel
theorem d_Integer_bitCount_0 : decode prog_13_method_49_code 0 = .ok (.iload_n 0, 1) := by decide +kernel
theorem d_Integer_bitCount_1 : decode prog_13_method_49_code 1 = .ok (.iload_n 0, 1) := by decide +kernel
theorem d_Integer_bitCount_2 : decode prog_13_method_49_code 2 = .ok (.iconst 1, 1) := by decide +kernel
theorem d_Integer_bitCount_3 : decode prog_13_method_49_code 3 = .ok (.iushr, 1) := by decide +kernel
theorem d_Integer_bitCount_4 : decode prog_13_method_49_code 4 = .ok (.ldc_w 265, 3) := by decide +kernel
theorem d_Integer_bitCount_7 : decode prog_13_method_49_code 7 = .ok (.iand, 1) := by decide +kernel
theorem d_Integer_bitCount_8 : decode prog_13_method_49_code 8 = .ok (.isub, 1) := by decide +kernel
theorem d_Integer_bitCount_9 : decode prog_13_method_49_code 9 = .ok (.istore_n 0, 1) := by decide +kernel
theorem d_Integer_bitCount_10 : decode prog_13_method_49_code 10 = .ok (.iload_n 0, 1) := by decide +kernel
theorem d_Integer_bitCount_11 : decode prog_13_method_49_code 11 = .ok (.ldc_w 266, 3) := by decide +kernel
theorem d_Integer_bitCount_14 : decode prog_13_method_49_code 14 = .ok (.iand, 1) := by decide +kernel
theorem d_Integer_bitCount_15 : decode prog_13_method_49_code 15 = .ok (.iload_n 0, 1) := by decide +kernel
theorem d_Integer_bitCount_16 : decode prog_13_method_49_code 16 = .ok (.iconst 2, 1) := by decide +kernel
theorem d_Integer_bitCount_17 : decode prog_13_method_49_code 17 = .ok (.iushr, 1) := by decide +kernel
theorem d_Integer_bitCount_18 : decode prog_13_method_49_code 18 = .ok (.ldc_w 266, 3) := by decide +kernel
theorem d_Integer_bitCount_21 : decode prog_13_method_49_code 21 = .ok (.iand, 1) := by decide +kernel
theorem d_Integer_bitCount_22 : decode prog_13_method_49_code 22 = .ok (.iadd, 1) := by decide +kernel
theorem d_Integer_bitCount_23 : decode prog_13_method_49_code 23 = .ok (.istore_n 0, 1) := by decide +kernel
theorem d_Integer_bitCount_24 : decode prog_13_method_49_code 24 = .ok (.iload_n 0, 1) := by decide +kernel
theorem d_Integer_bitCount_25 : decode prog_13_method_49_code 25 = .ok (.iload_n 0, 1) := by decide +kernel
theorem d_Integer_bitCount_26 : decode prog_13_method_49_code 26 = .ok (.iconst 4, 1) := by decide +kernel
theorem d_Integer_bitCount_27 : decode prog_13_method_49_code 27 = .ok (.iushr, 1) := by decide +kernel
theorem d_Integer_bitCount_28 : decode prog_13_method_49_code 28 = .ok (.iadd, 1) := by decide +kernel
theorem d_Integer_bitCount_29 : decode prog_13_method_49_code 29 = .ok (.ldc_w 267, 3) := by decide +kernel
theorem d_Integer_bitCount_32 : decode prog_13_method_49_code 32 = .ok (.iand, 1) := by decide +kernel
theorem d_Integer_bitCount_33 : decode prog_13_method_49_code 33 = .ok (.istore_n 0, 1) := by decide +kernel
theorem d_Integer_bitCount_34 : decode prog_13_method_49_code 34 = .ok (.iload_n 0, 1) := by decide +kernel
theorem d_Integer_bitCount_35 : decode prog_13_method_49_code 35 = .ok (.iload_n 0, 1) := by decide +kernel
theorem d_Integer_bitCount_36 : decode prog_13_method_49_code 36 = .ok (.bipush 8, 2) := by decide +kernel
theorem d_Integer_bitCount_38 : decode prog_13_method_49_code 38 = .ok (.iushr, 1) := by decide +kernel
theorem d_Integer_bitCount_39 : decode prog_13_method_49_code 39 = .ok (.iadd, 1) := by decide +kernel
theorem d_Integer_bitCount_40 : decode prog_13_method_49_code 40 = .ok (.istore_n 0, 1) := by decide +kernel
theorem d_Integer_bitCount_41 : decode prog_13_method_49_code 41 = .ok (.iload_n 0, 1) := by decide +kernel
theorem d_Integer_bitCount_42 : decode prog_13_method_49_code 42 = .ok (.iload_n 0, 1) := by decide +kernel
theorem d_Integer_bitCount_43 : decode prog_13_method_49_code 43 = .ok (.bipush 16, 2) := by decide +kernel
theorem d_Integer_bitCount_45 : decode prog_13_method_49_code 45 = .ok (.iushr, 1) := by decide +kernel
theorem d_Integer_bitCount_46 : decode prog_13_method_49_code 46 = .ok (.iadd, 1) := by decide +kernel
theorem d_Integer_bitCount_47 : decode prog_13_method_49_code 47 = .ok (.istore_n 0, 1) := by decide +kernel
theorem d_Integer_bitCount_48 : decode prog_13_method_49_code 48 = .ok (.iload_n 0, 1) := by decide +kernel
theorem d_Integer_bitCount_49 : decode prog_13_method_49_code 49 = .ok (.bipush 63, 2) := by decide +kernel
theorem d_Integer_bitCount_51 : decode prog_13_method_49_code 51 = .ok (.iand, 1) := by decide +kernel
theorem d_Integer_bitCount_52 : decode prog_13_method_49_code 52 = .ok (.ireturn, 1) := by decide +kernel
theorem d_Law_test_0 : decode method_11_code 0 = .ok (.aload_n 3, 1) := by decide +kernel
theorem d_Law_test_1 : decode method_11_code 1 = .ok (.iconst 0, 1) := by decide +kernel
theorem d_Law_test_2 : decode method_11_code 2 = .ok (.aload_n 0, 1) := by decide +kernel
theorem d_Law_test_3 : decode method_11_code 3 = .ok (.iload_n 1, 1) := by decide +kernel
theorem d_Law_test_4 : decode method_11_code 4 = .ok (.iload_n 2, 1) := by decide +kernel
theorem d_Law_test_5 : decode method_11_code 5 = .ok (.invokevirtual 46, 3) := by decide +kernel
theorem d_Law_test_8 : decode method_11_code 8 = .ok (.ifCond .eq 7, 3) := by decide +kernel
theorem d_Law_test_11 : decode method_11_code 11 = .ok (.lconst 1, 1) := by decide +kernel
theorem d_Law_test_12 : decode method_11_code 12 = .ok (.goto 4, 3) := by decide +kernel
theorem d_Law_test_15 : decode method_11_code 15 = .ok (.lconst 0, 1) := by decide +kernel
theorem d_Law_test_16 : decode method_11_code 16 = .ok (.lastore, 1) := by decide +kernel
theorem d_Law_test_17 : decode method_11_code 17 = .ok (.goto 11, 3) := by decide +kernel
theorem d_Law_test_20 : decode method_11_code 20 = .ok (.astore 4, 2) := by decide +kernel
theorem d_Law_test_22 : decode method_11_code 22 = .ok (.iconst 1, 1) := by decide +kernel
theorem d_Law_test_23 : decode method_11_code 23 = .ok (.ireturn, 1) := by decide +kernel
theorem d_Law_test_24 : decode method_11_code 24 = .ok (.astore 4, 2) := by decide +kernel
theorem d_Law_test_26 : decode method_11_code 26 = .ok (.iconst 2, 1) := by decide +kernel
theorem d_Law_test_27 : decode method_11_code 27 = .ok (.ireturn, 1) := by decide +kernel
theorem d_Law_test_28 : decode method_11_code 28 = .ok (.iconst 0, 1) := by decide +kernel
theorem d_Law_test_29 : decode method_11_code 29 = .ok (.ireturn, 1) := by decide +kernel
theorem d_RF_test_0 : decode prog_1_method_10_code 0 = .ok (.aload_n 0, 1) := by decide +kernel
theorem d_RF_test_1 : decode prog_1_method_10_code 1 = .ok (.iload_n 1, 1) := by decide +kernel
theorem d_RF_test_2 : decode prog_1_method_10_code 2 = .ok (.invokevirtual 97, 3) := by decide +kernel
theorem d_RF_test_5 : decode prog_1_method_10_code 5 = .ok (.astore_n 3, 1) := by decide +kernel
theorem d_RF_test_6 : decode prog_1_method_10_code 6 = .ok (.aload_n 3, 1) := by decide +kernel
theorem d_RF_test_7 : decode prog_1_method_10_code 7 = .ok (.getfield 101, 3) := by decide +kernel
theorem d_RF_test_10 : decode prog_1_method_10_code 10 = .ok (.ifCond .eq 11, 3) := by decide +kernel
theorem d_RF_test_13 : decode prog_1_method_10_code 13 = .ok (.aload_n 3, 1) := by decide +kernel
theorem d_RF_test_14 : decode prog_1_method_10_code 14 = .ok (.getfield 101, 3) := by decide +kernel
theorem d_RF_test_17 : decode prog_1_method_10_code 17 = .ok (.iconst 2, 1) := by decide +kernel
theorem d_RF_test_18 : decode prog_1_method_10_code 18 = .ok (.if_icmp .ne 13, 3) := by decide +kernel
theorem d_RF_test_21 : decode prog_1_method_10_code 21 = .ok (.new 104, 3) := by decide +kernel
theorem d_RF_test_24 : decode prog_1_method_10_code 24 = .ok (.dup, 1) := by decide +kernel
theorem d_RF_test_25 : decode prog_1_method_10_code 25 = .ok (.ldc 164, 2) := by decide +kernel
theorem d_RF_test_27 : decode prog_1_method_10_code 27 = .ok (.invokespecial 108, 3) := by decide +kernel
theorem d_RF_test_30 : decode prog_1_method_10_code 30 = .ok (.athrow, 1) := by decide +kernel
theorem d_RF_test_31 : decode prog_1_method_10_code 31 = .ok (.aload_n 0, 1) := by decide +kernel
theorem d_RF_test_32 : decode prog_1_method_10_code 32 = .ok (.aload_n 3, 1) := by decide +kernel
theorem d_RF_test_33 : decode prog_1_method_10_code 33 = .ok (.invokevirtual 166, 3) := by decide +kernel
theorem d_RF_test_36 : decode prog_1_method_10_code 36 = .ok (.ifCond .eq 13, 3) := by decide +kernel
theorem d_RF_test_39 : decode prog_1_method_10_code 39 = .ok (.new 104, 3) := by decide +kernel
theorem d_RF_test_42 : decode prog_1_method_10_code 42 = .ok (.dup, 1) := by decide +kernel
theorem d_RF_test_43 : decode prog_1_method_10_code 43 = .ok (.ldc 170, 2) := by decide +kernel
theorem d_RF_test_45 : decode prog_1_method_10_code 45 = .ok (.invokespecial 108, 3) := by decide +kernel
theorem d_RF_test_48 : decode prog_1_method_10_code 48 = .ok (.athrow, 1) := by decide +kernel
theorem d_RF_test_49 : decode prog_1_method_10_code 49 = .ok (.aload_n 3, 1) := by decide +kernel
theorem d_RF_test_50 : decode prog_1_method_10_code 50 = .ok (.iload_n 2, 1) := by decide +kernel
theorem d_RF_test_51 : decode prog_1_method_10_code 51 = .ok (.ifCond .ne 7, 3) := by decide +kernel
theorem d_RF_test_54 : decode prog_1_method_10_code 54 = .ok (.iconst 1, 1) := by decide +kernel
theorem d_RF_test_55 : decode prog_1_method_10_code 55 = .ok (.goto 4, 3) := by decide +kernel
theorem d_RF_test_58 : decode prog_1_method_10_code 58 = .ok (.iconst 0, 1) := by decide +kernel
theorem d_RF_test_59 : decode prog_1_method_10_code 59 = .ok (.putfield 172, 3) := by decide +kernel
theorem d_RF_test_62 : decode prog_1_method_10_code 62 = .ok (.iload_n 2, 1) := by decide +kernel
theorem d_RF_test_63 : decode prog_1_method_10_code 63 = .ok (.ireturn, 1) := by decide +kernel
theorem d_RF_openKinds_0 : decode prog_1_method_38_code 0 = .ok (.iconst 0, 1) := by decide +kernel
theorem d_RF_openKinds_1 : decode prog_1_method_38_code 1 = .ok (.istore_n 2, 1) := by decide +kernel
theorem d_RF_openKinds_2 : decode prog_1_method_38_code 2 = .ok (.aload_n 0, 1) := by decide +kernel
theorem d_RF_openKinds_3 : decode prog_1_method_38_code 3 = .ok (.getfield 30, 3) := by decide +kernel
theorem d_RF_openKinds_6 : decode prog_1_method_38_code 6 = .ok (.astore_n 3, 1) := by decide +kernel
theorem d_RF_openKinds_7 : decode prog_1_method_38_code 7 = .ok (.aload_n 3, 1) := by decide +kernel
theorem d_RF_openKinds_8 : decode prog_1_method_38_code 8 = .ok (.arraylength, 1) := by decide +kernel
theorem d_RF_openKinds_9 : decode prog_1_method_38_code 9 = .ok (.istore 4, 2) := by decide +kernel
theorem d_RF_openKinds_11 : decode prog_1_method_38_code 11 = .ok (.iconst 0, 1) := by decide +kernel
theorem d_RF_openKinds_12 : decode prog_1_method_38_code 12 = .ok (.istore 5, 2) := by decide +kernel
theorem d_RF_openKinds_14 : decode prog_1_method_38_code 14 = .ok (.iload 5, 2) := by decide +kernel
theorem d_RF_openKinds_16 : decode prog_1_method_38_code 16 = .ok (.iload 4, 2) := by decide +kernel
theorem d_RF_openKinds_18 : decode prog_1_method_38_code 18 = .ok (.if_icmp .ge 47, 3) := by decide +kernel
theorem d_RF_openKinds_21 : decode prog_1_method_38_code 21 = .ok (.aload_n 3, 1) := by decide +kernel
theorem d_RF_openKinds_22 : decode prog_1_method_38_code 22 = .ok (.iload 5, 2) := by decide +kernel
theorem d_RF_openKinds_24 : decode prog_1_method_38_code 24 = .ok (.aaload, 1) := by decide +kernel
theorem d_RF_openKinds_25 : decode prog_1_method_38_code 25 = .ok (.astore 6, 2) := by decide +kernel
theorem d_RF_openKinds_27 : decode prog_1_method_38_code 27 = .ok (.aload 6, 2) := by decide +kernel
theorem d_RF_openKinds_29 : decode prog_1_method_38_code 29 = .ok (.ifnull 30, 3) := by decide +kernel
theorem d_RF_openKinds_32 : decode prog_1_method_38_code 32 = .ok (.aload 6, 2) := by decide +kernel
theorem d_RF_openKinds_34 : decode prog_1_method_38_code 34 = .ok (.invokevirtual 147, 3) := by decide +kernel
theorem d_RF_openKinds_37 : decode prog_1_method_38_code 37 = .ok (.ifCond .eq 22, 3) := by decide +kernel
theorem d_RF_openKinds_40 : decode prog_1_method_38_code 40 = .ok (.aload 6, 2) := by decide +kernel
theorem d_RF_openKinds_42 : decode prog_1_method_38_code 42 = .ok (.getfield 257, 3) := by decide +kernel
theorem d_RF_openKinds_45 : decode prog_1_method_38_code 45 = .ok (.aload_n 1, 1) := by decide +kernel
theorem d_RF_openKinds_46 : decode prog_1_method_38_code 46 = .ok (.if_acmp .ne 13, 3) := by decide +kernel
theorem d_RF_openKinds_49 : decode prog_1_method_38_code 49 = .ok (.iload_n 2, 1) := by decide +kernel
theorem d_RF_openKinds_50 : decode prog_1_method_38_code 50 = .ok (.iconst 1, 1) := by decide +kernel
theorem d_RF_openKinds_51 : decode prog_1_method_38_code 51 = .ok (.aload 6, 2) := by decide +kernel
theorem d_RF_openKinds_53 : decode prog_1_method_38_code 53 = .ok (.getfield 258, 3) := by decide +kernel
theorem d_RF_openKinds_56 : decode prog_1_method_38_code 56 = .ok (.ishl, 1) := by decide +kernel
theorem d_RF_openKinds_57 : decode prog_1_method_38_code 57 = .ok (.ior, 1) := by decide +kernel
theorem d_RF_openKinds_58 : decode prog_1_method_38_code 58 = .ok (.istore_n 2, 1) := by decide +kernel
theorem d_RF_openKinds_59 : decode prog_1_method_38_code 59 = .ok (.iinc 5 1, 3) := by decide +kernel
theorem d_RF_openKinds_62 : decode prog_1_method_38_code 62 = .ok (.goto (-48), 3) := by decide +kernel
theorem d_RF_openKinds_65 : decode prog_1_method_38_code 65 = .ok (.iload_n 2, 1) := by decide +kernel
theorem d_RF_openKinds_66 : decode prog_1_method_38_code 66 = .ok (.ireturn, 1) := by decide +kernel
theorem d_Law_resume_0 : decode method_12_code 0 = .ok (.aload_n 2, 1) := by decide +kernel
theorem d_Law_resume_1 : decode method_12_code 1 = .ok (.iconst 0, 1) := by decide +kernel
theorem d_Law_resume_2 : decode method_12_code 2 = .ok (.aload_n 0, 1) := by decide +kernel
theorem d_Law_resume_3 : decode method_12_code 3 = .ok (.iload_n 1, 1) := by decide +kernel
theorem d_Law_resume_4 : decode method_12_code 4 = .ok (.invokevirtual 50, 3) := by decide +kernel
theorem d_Law_resume_7 : decode method_12_code 7 = .ok (.i2l, 1) := by decide +kernel
theorem d_Law_resume_8 : decode method_12_code 8 = .ok (.lastore, 1) := by decide +kernel
theorem d_Law_resume_9 : decode method_12_code 9 = .ok (.goto 9, 3) := by decide +kernel
theorem d_Law_resume_12 : decode method_12_code 12 = .ok (.astore_n 3, 1) := by decide +kernel
theorem d_Law_resume_13 : decode method_12_code 13 = .ok (.iconst 1, 1) := by decide +kernel
theorem d_Law_resume_14 : decode method_12_code 14 = .ok (.ireturn, 1) := by decide +kernel
theorem d_Law_resume_15 : decode method_12_code 15 = .ok (.astore_n 3, 1) := by decide +kernel
theorem d_Law_resume_16 : decode method_12_code 16 = .ok (.iconst 2, 1) := by decide +kernel
theorem d_Law_resume_17 : decode method_12_code 17 = .ok (.ireturn, 1) := by decide +kernel
theorem d_Law_resume_18 : decode method_12_code 18 = .ok (.iconst 0, 1) := by decide +kernel
theorem d_Law_resume_19 : decode method_12_code 19 = .ok (.ireturn, 1) := by decide +kernel
theorem d_RF_resume_0 : decode prog_1_method_11_code 0 = .ok (.aload_n 0, 1) := by decide +kernel
theorem d_RF_resume_1 : decode prog_1_method_11_code 1 = .ok (.iload_n 1, 1) := by decide +kernel
theorem d_RF_resume_2 : decode prog_1_method_11_code 2 = .ok (.invokevirtual 97, 3) := by decide +kernel
theorem d_RF_resume_5 : decode prog_1_method_11_code 5 = .ok (.astore_n 2, 1) := by decide +kernel
theorem d_RF_resume_6 : decode prog_1_method_11_code 6 = .ok (.aload_n 2, 1) := by decide +kernel
theorem d_RF_resume_7 : decode prog_1_method_11_code 7 = .ok (.getfield 101, 3) := by decide +kernel
theorem d_RF_resume_10 : decode prog_1_method_11_code 10 = .ok (.ifCond .ne 13, 3) := by decide +kernel
theorem d_RF_resume_13 : decode prog_1_method_11_code 13 = .ok (.new 104, 3) := by decide +kernel
theorem d_RF_resume_16 : decode prog_1_method_11_code 16 = .ok (.dup, 1) := by decide +kernel
theorem d_RF_resume_17 : decode prog_1_method_11_code 17 = .ok (.ldc 176, 2) := by decide +kernel
theorem d_RF_resume_19 : decode prog_1_method_11_code 19 = .ok (.invokespecial 108, 3) := by decide +kernel
theorem d_RF_resume_22 : decode prog_1_method_11_code 22 = .ok (.athrow, 1) := by decide +kernel
theorem d_RF_resume_23 : decode prog_1_method_11_code 23 = .ok (.aload_n 0, 1) := by decide +kernel
theorem d_RF_resume_24 : decode prog_1_method_11_code 24 = .ok (.aload_n 2, 1) := by decide +kernel
theorem d_RF_resume_25 : decode prog_1_method_11_code 25 = .ok (.invokevirtual 166, 3) := by decide +kernel
theorem d_RF_resume_28 : decode prog_1_method_11_code 28 = .ok (.ifCond .eq 5, 3) := by decide +kernel
theorem d_RF_resume_31 : decode prog_1_method_11_code 31 = .ok (.iconst (-1), 1) := by decide +kernel
theorem d_RF_resume_32 : decode prog_1_method_11_code 32 = .ok (.ireturn, 1) := by decide +kernel
theorem d_RF_resume_33 : decode prog_1_method_11_code 33 = .ok (.aload_n 2, 1) := by decide +kernel
theorem d_RF_resume_34 : decode prog_1_method_11_code 34 = .ok (.getfield 101, 3) := by decide +kernel
theorem d_RF_resume_37 : decode prog_1_method_11_code 37 = .ok (.iconst 2, 1) := by decide +kernel
theorem d_RF_resume_38 : decode prog_1_method_11_code 38 = .ok (.if_icmp .ne 6, 3) := by decide +kernel
theorem d_RF_resume_41 : decode prog_1_method_11_code 41 = .ok (.bipush (-2), 2) := by decide +kernel
theorem d_RF_resume_43 : decode prog_1_method_11_code 43 = .ok (.ireturn, 1) := by decide +kernel
theorem d_RF_resume_44 : decode prog_1_method_11_code 44 = .ok (.aload_n 2, 1) := by decide +kernel
theorem d_RF_resume_45 : decode prog_1_method_11_code 45 = .ok (.getfield 172, 3) := by decide +kernel
theorem d_RF_resume_48 : decode prog_1_method_11_code 48 = .ok (.ifCond .eq 6, 3) := by decide +kernel
theorem d_RF_resume_51 : decode prog_1_method_11_code 51 = .ok (.bipush (-3), 2) := by decide +kernel
theorem d_RF_resume_53 : decode prog_1_method_11_code 53 = .ok (.ireturn, 1) := by decide +kernel
theorem d_RF_resume_54 : decode prog_1_method_11_code 54 = .ok (.aload_n 2, 1) := by decide +kernel
theorem d_RF_resume_55 : decode prog_1_method_11_code 55 = .ok (.iconst 0, 1) := by decide +kernel
theorem d_RF_resume_56 : decode prog_1_method_11_code 56 = .ok (.putfield 101, 3) := by decide +kernel
theorem d_RF_resume_59 : decode prog_1_method_11_code 59 = .ok (.iconst 1, 1) := by decide +kernel
theorem d_RF_resume_60 : decode prog_1_method_11_code 60 = .ok (.ireturn, 1) := by decide +kernel
theorem d_Law_zone_0 : decode method_13_code 0 = .ok (.aload_n 3, 1) := by decide +kernel
theorem d_Law_zone_1 : decode method_13_code 1 = .ok (.iconst 0, 1) := by decide +kernel
theorem d_Law_zone_2 : decode method_13_code 2 = .ok (.aload_n 0, 1) := by decide +kernel
theorem d_Law_zone_3 : decode method_13_code 3 = .ok (.iload_n 1, 1) := by decide +kernel
theorem d_Law_zone_4 : decode method_13_code 4 = .ok (.iload_n 2, 1) := by decide +kernel
theorem d_Law_zone_5 : decode method_13_code 5 = .ok (.invokevirtual 53, 3) := by decide +kernel
theorem d_Law_zone_8 : decode method_13_code 8 = .ok (.i2l, 1) := by decide +kernel
theorem d_Law_zone_9 : decode method_13_code 9 = .ok (.lastore, 1) := by decide +kernel
theorem d_Law_zone_10 : decode method_13_code 10 = .ok (.goto 15, 3) := by decide +kernel
theorem d_Law_zone_13 : decode method_13_code 13 = .ok (.astore 4, 2) := by decide +kernel
theorem d_Law_zone_15 : decode method_13_code 15 = .ok (.iconst 1, 1) := by decide +kernel
theorem d_Law_zone_16 : decode method_13_code 16 = .ok (.ireturn, 1) := by decide +kernel
theorem d_Law_zone_17 : decode method_13_code 17 = .ok (.astore 4, 2) := by decide +kernel
theorem d_Law_zone_19 : decode method_13_code 19 = .ok (.iconst 2, 1) := by decide +kernel
theorem d_Law_zone_20 : decode method_13_code 20 = .ok (.ireturn, 1) := by decide +kernel
theorem d_Law_zone_21 : decode method_13_code 21 = .ok (.astore 4, 2) := by decide +kernel
theorem d_Law_zone_23 : decode method_13_code 23 = .ok (.iconst 3, 1) := by decide +kernel
theorem d_Law_zone_24 : decode method_13_code 24 = .ok (.ireturn, 1) := by decide +kernel
theorem d_Law_zone_25 : decode method_13_code 25 = .ok (.iconst 0, 1) := by decide +kernel
theorem d_Law_zone_26 : decode method_13_code 26 = .ok (.ireturn, 1) := by decide +kernel
theorem d_RF_zone_0 : decode prog_1_method_12_code 0 = .ok (.aload_n 0, 1) := by decide +kernel
theorem d_RF_zone_1 : decode prog_1_method_12_code 1 = .ok (.iload_n 1, 1) := by decide +kernel
theorem d_RF_zone_2 : decode prog_1_method_12_code 2 = .ok (.invokevirtual 97, 3) := by decide +kernel
theorem d_RF_zone_5 : decode prog_1_method_12_code 5 = .ok (.astore_n 3, 1) := by decide +kernel
theorem d_RF_zone_6 : decode prog_1_method_12_code 6 = .ok (.iload_n 2, 1) := by decide +kernel
theorem d_RF_zone_7 : decode prog_1_method_12_code 7 = .ok (.ifCond .ge 13, 3) := by decide +kernel
theorem d_RF_zone_10 : decode prog_1_method_12_code 10 = .ok (.new 66, 3) := by decide +kernel
theorem d_RF_zone_13 : decode prog_1_method_12_code 13 = .ok (.dup, 1) := by decide +kernel
theorem d_RF_zone_14 : decode prog_1_method_12_code 14 = .ok (.ldc 178, 2) := by decide +kernel
theorem d_RF_zone_16 : decode prog_1_method_12_code 16 = .ok (.invokespecial 70, 3) := by decide +kernel
theorem d_RF_zone_19 : decode prog_1_method_12_code 19 = .ok (.athrow, 1) := by decide +kernel
theorem d_RF_zone_20 : decode prog_1_method_12_code 20 = .ok (.aload_n 3, 1) := by decide +kernel
theorem d_RF_zone_21 : decode prog_1_method_12_code 21 = .ok (.invokestatic 180, 3) := by decide +kernel
theorem d_RF_zone_24 : decode prog_1_method_12_code 24 = .ok (.iload_n 2, 1) := by decide +kernel
theorem d_RF_zone_25 : decode prog_1_method_12_code 25 = .ok (.istore 4, 2) := by decide +kernel
theorem d_RF_zone_27 : decode prog_1_method_12_code 27 = .ok (.aload_n 0, 1) := by decide +kernel
theorem d_RF_zone_28 : decode prog_1_method_12_code 28 = .ok (.aload_n 3, 1) := by decide +kernel
theorem d_RF_zone_29 : decode prog_1_method_12_code 29 = .ok (.invokevirtual 184, 3) := by decide +kernel
theorem d_RF_zone_32 : decode prog_1_method_12_code 32 = .ok (.istore 5, 2) := by decide +kernel
theorem d_RF_zone_34 : decode prog_1_method_12_code 34 = .ok (.iconst 0, 1) := by decide +kernel
theorem d_RF_zone_35 : decode prog_1_method_12_code 35 = .ok (.istore 6, 2) := by decide +kernel
theorem d_RF_zone_37 : decode prog_1_method_12_code 37 = .ok (.iload 6, 2) := by decide +kernel
theorem d_RF_zone_39 : decode prog_1_method_12_code 39 = .ok (.bipush 20, 2) := by decide +kernel
theorem d_RF_zone_41 : decode prog_1_method_12_code 41 = .ok (.if_icmp .ge 30, 3) := by decide +kernel
theorem d_RF_zone_44 : decode prog_1_method_12_code 44 = .ok (.iload 5, 2) := by decide +kernel
theorem d_RF_zone_46 : decode prog_1_method_12_code 46 = .ok (.iload 6, 2) := by decide +kernel
theorem d_RF_zone_48 : decode prog_1_method_12_code 48 = .ok (.invokestatic 155, 3) := by decide +kernel
theorem d_RF_zone_51 : decode prog_1_method_12_code 51 = .ok (.ifCond .eq 14, 3) := by decide +kernel
theorem d_RF_zone_54 : decode prog_1_method_12_code 54 = .ok (.iload 4, 2) := by decide +kernel
theorem d_RF_zone_56 : decode prog_1_method_12_code 56 = .ok (.ifCond .ne 6, 3) := by decide +kernel
theorem d_RF_zone_59 : decode prog_1_method_12_code 59 = .ok (.iload 6, 2) := by decide +kernel
theorem d_RF_zone_61 : decode prog_1_method_12_code 61 = .ok (.ireturn, 1) := by decide +kernel
theorem d_RF_zone_62 : decode prog_1_method_12_code 62 = .ok (.iinc 4 (-1), 3) := by decide +kernel
theorem d_RF_zone_65 : decode prog_1_method_12_code 65 = .ok (.iinc 6 1, 3) := by decide +kernel
theorem d_RF_zone_68 : decode prog_1_method_12_code 68 = .ok (.goto (-31), 3) := by decide +kernel
theorem d_RF_zone_71 : decode prog_1_method_12_code 71 = .ok (.iconst (-1), 1) := by decide +kernel
theorem d_RF_zone_72 : decode prog_1_method_12_code 72 = .ok (.ireturn, 1) := by decide +kernel
theorem d_RF_needLost_0 : decode prog_1_method_29_code 0 = .ok (.aload_n 0, 1) := by decide +kernel
theorem d_RF_needLost_1 : decode prog_1_method_29_code 1 = .ok (.getfield 101, 3) := by decide +kernel
theorem d_RF_needLost_4 : decode prog_1_method_29_code 4 = .ok (.iconst 2, 1) := by decide +kernel
theorem d_RF_needLost_5 : decode prog_1_method_29_code 5 = .ok (.if_icmp .eq 14, 3) := by decide +kernel
theorem d_RF_needLost_8 : decode prog_1_method_29_code 8 = .ok (.new 104, 3) := by decide +kernel
theorem d_RF_needLost_11 : decode prog_1_method_29_code 11 = .ok (.dup, 1) := by decide +kernel
theorem d_RF_needLost_12 : decode prog_1_method_29_code 12 = .ok (.ldc_w 317, 3) := by decide +kernel
theorem d_RF_needLost_15 : decode prog_1_method_29_code 15 = .ok (.invokespecial 108, 3) := by decide +kernel
theorem d_RF_needLost_18 : decode prog_1_method_29_code 18 = .ok (.athrow, 1) := by decide +kernel
theorem d_RF_needLost_19 : decode prog_1_method_29_code 19 = .ok (.return_, 1) := by decide +kernel
theorem d_RF_piecesOfLost_0 : decode prog_1_method_39_code 0 = .ok (.aload_n 0, 1) := by decide +kernel
theorem d_RF_piecesOfLost_1 : decode prog_1_method_39_code 1 = .ok (.getfield 10, 3) := by decide +kernel
theorem d_RF_piecesOfLost_4 : decode prog_1_method_39_code 4 = .ok (.aload_n 1, 1) := by decide +kernel
theorem d_RF_piecesOfLost_5 : decode prog_1_method_39_code 5 = .ok (.getfield 109, 3) := by decide +kernel
theorem d_RF_piecesOfLost_8 : decode prog_1_method_39_code 8 = .ok (.aload_n 0, 1) := by decide +kernel
theorem d_RF_piecesOfLost_9 : decode prog_1_method_39_code 9 = .ok (.getfield 158, 3) := by decide +kernel
theorem d_RF_piecesOfLost_12 : decode prog_1_method_39_code 12 = .ok (.aload_n 1, 1) := by decide +kernel
theorem d_RF_piecesOfLost_13 : decode prog_1_method_39_code 13 = .ok (.getfield 357, 3) := by decide +kernel
theorem d_RF_piecesOfLost_16 : decode prog_1_method_39_code 16 = .ok (.isub, 1) := by decide +kernel
theorem d_RF_piecesOfLost_17 : decode prog_1_method_39_code 17 = .ok (.bipush 10, 2) := by decide +kernel
theorem d_RF_piecesOfLost_19 : decode prog_1_method_39_code 19 = .ok (.idiv, 1) := by decide +kernel
theorem d_RF_piecesOfLost_20 : decode prog_1_method_39_code 20 = .ok (.invokevirtual 360, 3) := by decide +kernel
theorem d_RF_piecesOfLost_23 : decode prog_1_method_39_code 23 = .ok (.ireturn, 1) := by decide +kernel
theorem d_Track_reach_0 : decode prog_7_method_8_code 0 = .ok (.iconst 1, 1) := by decide +kernel
theorem d_Track_reach_1 : decode prog_7_method_8_code 1 = .ok (.iload_n 1, 1) := by decide +kernel
theorem d_Track_reach_2 : decode prog_7_method_8_code 2 = .ok (.ishl, 1) := by decide +kernel
theorem d_Track_reach_3 : decode prog_7_method_8_code 3 = .ok (.istore_n 3, 1) := by decide +kernel
theorem d_Track_reach_4 : decode prog_7_method_8_code 4 = .ok (.iconst 0, 1) := by decide +kernel
theorem d_Track_reach_5 : decode prog_7_method_8_code 5 = .ok (.istore 4, 2) := by decide +kernel
theorem d_Track_reach_7 : decode prog_7_method_8_code 7 = .ok (.iload 4, 2) := by decide +kernel
theorem d_Track_reach_9 : decode prog_7_method_8_code 9 = .ok (.iload_n 2, 1) := by decide +kernel
theorem d_Track_reach_10 : decode prog_7_method_8_code 10 = .ok (.if_icmp .ge 24, 3) := by decide +kernel
theorem d_Track_reach_13 : decode prog_7_method_8_code 13 = .ok (.iload 4, 2) := by decide +kernel
theorem d_Track_reach_15 : decode prog_7_method_8_code 15 = .ok (.bipush 20, 2) := by decide +kernel
theorem d_Track_reach_17 : decode prog_7_method_8_code 17 = .ok (.if_icmp .ge 17, 3) := by decide +kernel
theorem d_Track_reach_20 : decode prog_7_method_8_code 20 = .ok (.iload_n 3, 1) := by decide +kernel
theorem d_Track_reach_21 : decode prog_7_method_8_code 21 = .ok (.aload_n 0, 1) := by decide +kernel
theorem d_Track_reach_22 : decode prog_7_method_8_code 22 = .ok (.iload_n 3, 1) := by decide +kernel
theorem d_Track_reach_23 : decode prog_7_method_8_code 23 = .ok (.invokevirtual 23, 3) := by decide +kernel
theorem d_Track_reach_26 : decode prog_7_method_8_code 26 = .ok (.ior, 1) := by decide +kernel
theorem d_Track_reach_27 : decode prog_7_method_8_code 27 = .ok (.istore_n 3, 1) := by decide +kernel
theorem d_Track_reach_28 : decode prog_7_method_8_code 28 = .ok (.iinc 4 1, 3) := by decide +kernel
theorem d_Track_reach_31 : decode prog_7_method_8_code 31 = .ok (.goto (-24), 3) := by decide +kernel
theorem d_Track_reach_34 : decode prog_7_method_8_code 34 = .ok (.iload_n 3, 1) := by decide +kernel
theorem d_Track_reach_35 : decode prog_7_method_8_code 35 = .ok (.ireturn, 1) := by decide +kernel
theorem d_Track_around_0 : decode prog_7_method_10_code 0 = .ok (.iconst 0, 1) := by decide +kernel
theorem d_Track_around_1 : decode prog_7_method_10_code 1 = .ok (.istore_n 2, 1) := by decide +kernel
theorem d_Track_around_2 : decode prog_7_method_10_code 2 = .ok (.iconst 0, 1) := by decide +kernel
theorem d_Track_around_3 : decode prog_7_method_10_code 3 = .ok (.istore_n 3, 1) := by decide +kernel
theorem d_Track_around_4 : decode prog_7_method_10_code 4 = .ok (.iload_n 3, 1) := by decide +kernel
theorem d_Track_around_5 : decode prog_7_method_10_code 5 = .ok (.aload_n 0, 1) := by decide +kernel
theorem d_Track_around_6 : decode prog_7_method_10_code 6 = .ok (.getfield 15, 3) := by decide +kernel
theorem d_Track_around_9 : decode prog_7_method_10_code 9 = .ok (.if_icmp .ge 26, 3) := by decide +kernel
theorem d_Track_around_12 : decode prog_7_method_10_code 12 = .ok (.iload_n 1, 1) := by decide +kernel
theorem d_Track_around_13 : decode prog_7_method_10_code 13 = .ok (.iload_n 3, 1) := by decide +kernel
theorem d_Track_around_14 : decode prog_7_method_10_code 14 = .ok (.invokestatic 19, 3) := by decide +kernel
theorem d_Track_around_17 : decode prog_7_method_10_code 17 = .ok (.ifCond .eq 12, 3) := by decide +kernel
theorem d_Track_around_20 : decode prog_7_method_10_code 20 = .ok (.iload_n 2, 1) := by decide +kernel
theorem d_Track_around_21 : decode prog_7_method_10_code 21 = .ok (.aload_n 0, 1) := by decide +kernel
theorem d_Track_around_22 : decode prog_7_method_10_code 22 = .ok (.getfield 9, 3) := by decide +kernel
theorem d_Track_around_25 : decode prog_7_method_10_code 25 = .ok (.iload_n 3, 1) := by decide +kernel
theorem d_Track_around_26 : decode prog_7_method_10_code 26 = .ok (.iaload, 1) := by decide +kernel
theorem d_Track_around_27 : decode prog_7_method_10_code 27 = .ok (.ior, 1) := by decide +kernel
theorem d_Track_around_28 : decode prog_7_method_10_code 28 = .ok (.istore_n 2, 1) := by decide +kernel
theorem d_Track_around_29 : decode prog_7_method_10_code 29 = .ok (.iinc 3 1, 3) := by decide +kernel
theorem d_Track_around_32 : decode prog_7_method_10_code 32 = .ok (.goto (-28), 3) := by decide +kernel
theorem d_Track_around_35 : decode prog_7_method_10_code 35 = .ok (.iload_n 2, 1) := by decide +kernel
theorem d_Track_around_36 : decode prog_7_method_10_code 36 = .ok (.ireturn, 1) := by decide +kernel
theorem d_Law_found_0 : decode method_14_code 0 = .ok (.aload_n 3, 1) := by decide +kernel
theorem d_Law_found_1 : decode method_14_code 1 = .ok (.iconst 0, 1) := by decide +kernel
theorem d_Law_found_2 : decode method_14_code 2 = .ok (.aload_n 0, 1) := by decide +kernel
theorem d_Law_found_3 : decode method_14_code 3 = .ok (.iload_n 1, 1) := by decide +kernel
theorem d_Law_found_4 : decode method_14_code 4 = .ok (.iload_n 2, 1) := by decide +kernel
theorem d_Law_found_5 : decode method_14_code 5 = .ok (.invokevirtual 56, 3) := by decide +kernel
theorem d_Law_found_8 : decode method_14_code 8 = .ok (.i2l, 1) := by decide +kernel
theorem d_Law_found_9 : decode method_14_code 9 = .ok (.lastore, 1) := by decide +kernel
theorem d_Law_found_10 : decode method_14_code 10 = .ok (.goto 11, 3) := by decide +kernel
theorem d_Law_found_13 : decode method_14_code 13 = .ok (.astore 4, 2) := by decide +kernel
theorem d_Law_found_15 : decode method_14_code 15 = .ok (.iconst 1, 1) := by decide +kernel
theorem d_Law_found_16 : decode method_14_code 16 = .ok (.ireturn, 1) := by decide +kernel
theorem d_Law_found_17 : decode method_14_code 17 = .ok (.astore 4, 2) := by decide +kernel
theorem d_Law_found_19 : decode method_14_code 19 = .ok (.iconst 2, 1) := by decide +kernel
theorem d_Law_found_20 : decode method_14_code 20 = .ok (.ireturn, 1) := by decide +kernel
theorem d_Law_found_21 : decode method_14_code 21 = .ok (.iconst 0, 1) := by decide +kernel
theorem d_Law_found_22 : decode method_14_code 22 = .ok (.ireturn, 1) := by decide +kernel
theorem d_RF_found_0 : decode prog_1_method_13_code 0 = .ok (.aload_n 0, 1) := by decide +kernel
theorem d_RF_found_1 : decode prog_1_method_13_code 1 = .ok (.iload_n 1, 1) := by decide +kernel
theorem d_RF_found_2 : decode prog_1_method_13_code 2 = .ok (.invokevirtual 97, 3) := by decide +kernel
theorem d_RF_found_5 : decode prog_1_method_13_code 5 = .ok (.astore_n 3, 1) := by decide +kernel
theorem d_RF_found_6 : decode prog_1_method_13_code 6 = .ok (.aload_n 0, 1) := by decide +kernel
theorem d_RF_found_7 : decode prog_1_method_13_code 7 = .ok (.iload_n 2, 1) := by decide +kernel
theorem d_RF_found_8 : decode prog_1_method_13_code 8 = .ok (.invokevirtual 62, 3) := by decide +kernel
theorem d_RF_found_11 : decode prog_1_method_13_code 11 = .ok (.aload_n 3, 1) := by decide +kernel
theorem d_RF_found_12 : decode prog_1_method_13_code 12 = .ok (.invokestatic 180, 3) := by decide +kernel
theorem d_RF_found_15 : decode prog_1_method_13_code 15 = .ok (.aload_n 0, 1) := by decide +kernel
theorem d_RF_found_16 : decode prog_1_method_13_code 16 = .ok (.aload_n 3, 1) := by decide +kernel
theorem d_RF_found_17 : decode prog_1_method_13_code 17 = .ok (.invokevirtual 184, 3) := by decide +kernel
theorem d_RF_found_20 : decode prog_1_method_13_code 20 = .ok (.iload_n 2, 1) := by decide +kernel
theorem d_RF_found_21 : decode prog_1_method_13_code 21 = .ok (.invokestatic 155, 3) := by decide +kernel
theorem d_RF_found_24 : decode prog_1_method_13_code 24 = .ok (.ifCond .ne 13, 3) := by decide +kernel
theorem d_RF_found_27 : decode prog_1_method_13_code 27 = .ok (.new 104, 3) := by decide +kernel
theorem d_RF_found_30 : decode prog_1_method_13_code 30 = .ok (.dup, 1) := by decide +kernel
theorem d_RF_found_31 : decode prog_1_method_13_code 31 = .ok (.ldc 187, 2) := by decide +kernel
theorem d_RF_found_33 : decode prog_1_method_13_code 33 = .ok (.invokespecial 108, 3) := by decide +kernel
theorem d_RF_found_36 : decode prog_1_method_13_code 36 = .ok (.athrow, 1) := by decide +kernel
theorem d_RF_found_37 : decode prog_1_method_13_code 37 = .ok (.aload_n 0, 1) := by decide +kernel
theorem d_RF_found_38 : decode prog_1_method_13_code 38 = .ok (.getfield 10, 3) := by decide +kernel
theorem d_RF_found_41 : decode prog_1_method_13_code 41 = .ok (.aload_n 3, 1) := by decide +kernel
theorem d_RF_found_42 : decode prog_1_method_13_code 42 = .ok (.getfield 109, 3) := by decide +kernel
theorem d_RF_found_45 : decode prog_1_method_13_code 45 = .ok (.iload_n 2, 1) := by decide +kernel
theorem d_RF_found_46 : decode prog_1_method_13_code 46 = .ok (.invokevirtual 189, 3) := by decide +kernel
theorem d_RF_found_49 : decode prog_1_method_13_code 49 = .ok (.istore 4, 2) := by decide +kernel
theorem d_RF_found_51 : decode prog_1_method_13_code 51 = .ok (.aload_n 3, 1) := by decide +kernel
theorem d_RF_found_52 : decode prog_1_method_13_code 52 = .ok (.iconst 1, 1) := by decide +kernel
theorem d_RF_found_53 : decode prog_1_method_13_code 53 = .ok (.putfield 101, 3) := by decide +kernel
theorem d_RF_found_56 : decode prog_1_method_13_code 56 = .ok (.aload_n 3, 1) := by decide +kernel
theorem d_RF_found_57 : decode prog_1_method_13_code 57 = .ok (.iload_n 2, 1) := by decide +kernel
theorem d_RF_found_58 : decode prog_1_method_13_code 58 = .ok (.putfield 109, 3) := by decide +kernel
theorem d_RF_found_61 : decode prog_1_method_13_code 61 = .ok (.iload 4, 2) := by decide +kernel
theorem d_RF_found_63 : decode prog_1_method_13_code 63 = .ok (.ireturn, 1) := by decide +kernel
theorem d_Track_fewestLinks_0 : decode prog_7_method_9_code 0 = .ok (.iconst 0, 1) := by decide +kernel
theorem d_Track_fewestLinks_1 : decode prog_7_method_9_code 1 = .ok (.istore_n 3, 1) := by decide +kernel
