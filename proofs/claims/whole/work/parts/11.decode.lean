/-! decode rows: printed by wip/gen/names.py -/
theorem d_RF_rule_46 : decode prog_1_method_5_code 46 = .ok (.aload_n 0, 1) := by decide +kernel
theorem d_RF_rule_47 : decode prog_1_method_5_code 47 = .ok (.getfield 18, 3) := by decide +kernel
theorem d_RF_rule_50 : decode prog_1_method_5_code 50 = .ok (.iload_n 1, 1) := by decide +kernel
theorem d_RF_rule_51 : decode prog_1_method_5_code 51 = .ok (.aaload, 1) := by decide +kernel
theorem d_RF_rule_52 : decode prog_1_method_5_code 52 = .ok (.iload_n 2, 1) := by decide +kernel
theorem d_RF_rule_53 : decode prog_1_method_5_code 53 = .ok (.iload_n 3, 1) := by decide +kernel
theorem d_RF_rule_54 : decode prog_1_method_5_code 54 = .ok (.iload 4, 2) := by decide +kernel
theorem d_RF_rule_56 : decode prog_1_method_5_code 56 = .ok (.invokevirtual 93, 3) := by decide +kernel
theorem d_RF_rule_59 : decode prog_1_method_5_code 59 = .ok (.return_, 1) := by decide +kernel
theorem d_RF_needKind_0 : decode prog_1_method_27_code 0 = .ok (.iload_n 0, 1) := by decide +kernel
theorem d_RF_needKind_1 : decode prog_1_method_27_code 1 = .ok (.ifCond .lt 9, 3) := by decide +kernel
theorem d_RF_needKind_4 : decode prog_1_method_27_code 4 = .ok (.iload_n 0, 1) := by decide +kernel
theorem d_RF_needKind_5 : decode prog_1_method_27_code 5 = .ok (.bipush 8, 2) := by decide +kernel
theorem d_RF_needKind_7 : decode prog_1_method_27_code 7 = .ok (.if_icmp .lt 14, 3) := by decide +kernel
theorem d_RF_needKind_10 : decode prog_1_method_27_code 10 = .ok (.new 66, 3) := by decide +kernel
theorem d_RF_needKind_13 : decode prog_1_method_27_code 13 = .ok (.dup, 1) := by decide +kernel
theorem d_RF_needKind_14 : decode prog_1_method_27_code 14 = .ok (.ldc_w 313, 3) := by decide +kernel
theorem d_RF_needKind_17 : decode prog_1_method_27_code 17 = .ok (.invokespecial 70, 3) := by decide +kernel
theorem d_RF_needKind_20 : decode prog_1_method_27_code 20 = .ok (.athrow, 1) := by decide +kernel
theorem d_RF_needKind_21 : decode prog_1_method_27_code 21 = .ok (.return_, 1) := by decide +kernel
theorem d_Rule_set_0 : decode prog_6_method_2_code 0 = .ok (.aload_n 0, 1) := by decide +kernel
theorem d_Rule_set_1 : decode prog_6_method_2_code 1 = .ok (.iload_n 1, 1) := by decide +kernel
theorem d_Rule_set_2 : decode prog_6_method_2_code 2 = .ok (.putfield 7, 3) := by decide +kernel
theorem d_Rule_set_5 : decode prog_6_method_2_code 5 = .ok (.aload_n 0, 1) := by decide +kernel
theorem d_Rule_set_6 : decode prog_6_method_2_code 6 = .ok (.iload_n 2, 1) := by decide +kernel
theorem d_Rule_set_7 : decode prog_6_method_2_code 7 = .ok (.putfield 13, 3) := by decide +kernel
theorem d_Rule_set_10 : decode prog_6_method_2_code 10 = .ok (.aload_n 0, 1) := by decide +kernel
theorem d_Rule_set_11 : decode prog_6_method_2_code 11 = .ok (.iload_n 3, 1) := by decide +kernel
theorem d_Rule_set_12 : decode prog_6_method_2_code 12 = .ok (.putfield 17, 3) := by decide +kernel
theorem d_Rule_set_15 : decode prog_6_method_2_code 15 = .ok (.return_, 1) := by decide +kernel
theorem d_Law_move_0 : decode method_7_code 0 = .ok (.aload_n 0, 1) := by decide +kernel
theorem d_Law_move_1 : decode method_7_code 1 = .ok (.iload_n 1, 1) := by decide +kernel
theorem d_Law_move_2 : decode method_7_code 2 = .ok (.iload_n 2, 1) := by decide +kernel
theorem d_Law_move_3 : decode method_7_code 3 = .ok (.invokevirtual 31, 3) := by decide +kernel
theorem d_Law_move_6 : decode method_7_code 6 = .ok (.goto 9, 3) := by decide +kernel
theorem d_Law_move_9 : decode method_7_code 9 = .ok (.astore_n 3, 1) := by decide +kernel
theorem d_Law_move_10 : decode method_7_code 10 = .ok (.iconst 1, 1) := by decide +kernel
theorem d_Law_move_11 : decode method_7_code 11 = .ok (.ireturn, 1) := by decide +kernel
theorem d_Law_move_12 : decode method_7_code 12 = .ok (.astore_n 3, 1) := by decide +kernel
theorem d_Law_move_13 : decode method_7_code 13 = .ok (.iconst 2, 1) := by decide +kernel
theorem d_Law_move_14 : decode method_7_code 14 = .ok (.ireturn, 1) := by decide +kernel
theorem d_Law_move_15 : decode method_7_code 15 = .ok (.iconst 0, 1) := by decide +kernel
theorem d_Law_move_16 : decode method_7_code 16 = .ok (.ireturn, 1) := by decide +kernel
theorem d_RF_move_0 : decode prog_1_method_6_code 0 = .ok (.aload_n 0, 1) := by decide +kernel
theorem d_RF_move_1 : decode prog_1_method_6_code 1 = .ok (.iload_n 1, 1) := by decide +kernel
theorem d_RF_move_2 : decode prog_1_method_6_code 2 = .ok (.invokevirtual 97, 3) := by decide +kernel
theorem d_RF_move_5 : decode prog_1_method_6_code 5 = .ok (.astore_n 3, 1) := by decide +kernel
theorem d_RF_move_6 : decode prog_1_method_6_code 6 = .ok (.aload_n 0, 1) := by decide +kernel
theorem d_RF_move_7 : decode prog_1_method_6_code 7 = .ok (.iload_n 2, 1) := by decide +kernel
theorem d_RF_move_8 : decode prog_1_method_6_code 8 = .ok (.invokevirtual 62, 3) := by decide +kernel
theorem d_RF_move_11 : decode prog_1_method_6_code 11 = .ok (.aload_n 3, 1) := by decide +kernel
theorem d_RF_move_12 : decode prog_1_method_6_code 12 = .ok (.getfield 101, 3) := by decide +kernel
theorem d_RF_move_15 : decode prog_1_method_6_code 15 = .ok (.ifCond .eq 13, 3) := by decide +kernel
theorem d_RF_move_18 : decode prog_1_method_6_code 18 = .ok (.new 104, 3) := by decide +kernel
theorem d_RF_move_21 : decode prog_1_method_6_code 21 = .ok (.dup, 1) := by decide +kernel
theorem d_RF_move_22 : decode prog_1_method_6_code 22 = .ok (.ldc 106, 2) := by decide +kernel
theorem d_RF_move_24 : decode prog_1_method_6_code 24 = .ok (.invokespecial 108, 3) := by decide +kernel
theorem d_RF_move_27 : decode prog_1_method_6_code 27 = .ok (.athrow, 1) := by decide +kernel
theorem d_RF_move_28 : decode prog_1_method_6_code 28 = .ok (.aload_n 0, 1) := by decide +kernel
theorem d_RF_move_29 : decode prog_1_method_6_code 29 = .ok (.getfield 10, 3) := by decide +kernel
theorem d_RF_move_32 : decode prog_1_method_6_code 32 = .ok (.aload_n 3, 1) := by decide +kernel
theorem d_RF_move_33 : decode prog_1_method_6_code 33 = .ok (.getfield 109, 3) := by decide +kernel
theorem d_RF_move_36 : decode prog_1_method_6_code 36 = .ok (.iload_n 2, 1) := by decide +kernel
theorem d_RF_move_37 : decode prog_1_method_6_code 37 = .ok (.invokevirtual 112, 3) := by decide +kernel
theorem d_RF_move_40 : decode prog_1_method_6_code 40 = .ok (.ifCond .ne 13, 3) := by decide +kernel
theorem d_RF_move_43 : decode prog_1_method_6_code 43 = .ok (.new 104, 3) := by decide +kernel
theorem d_RF_move_46 : decode prog_1_method_6_code 46 = .ok (.dup, 1) := by decide +kernel
theorem d_RF_move_47 : decode prog_1_method_6_code 47 = .ok (.ldc 116, 2) := by decide +kernel
theorem d_RF_move_49 : decode prog_1_method_6_code 49 = .ok (.invokespecial 108, 3) := by decide +kernel
theorem d_RF_move_52 : decode prog_1_method_6_code 52 = .ok (.athrow, 1) := by decide +kernel
theorem d_RF_move_53 : decode prog_1_method_6_code 53 = .ok (.aload_n 3, 1) := by decide +kernel
theorem d_RF_move_54 : decode prog_1_method_6_code 54 = .ok (.iload_n 2, 1) := by decide +kernel
theorem d_RF_move_55 : decode prog_1_method_6_code 55 = .ok (.putfield 109, 3) := by decide +kernel
theorem d_RF_move_58 : decode prog_1_method_6_code 58 = .ok (.return_, 1) := by decide +kernel
theorem d_RF_robotAt_0 : decode prog_1_method_24_code 0 = .ok (.iload_n 1, 1) := by decide +kernel
theorem d_RF_robotAt_1 : decode prog_1_method_24_code 1 = .ok (.ifCond .lt 21, 3) := by decide +kernel
theorem d_RF_robotAt_4 : decode prog_1_method_24_code 4 = .ok (.iload_n 1, 1) := by decide +kernel
theorem d_RF_robotAt_5 : decode prog_1_method_24_code 5 = .ok (.aload_n 0, 1) := by decide +kernel
theorem d_RF_robotAt_6 : decode prog_1_method_24_code 6 = .ok (.getfield 24, 3) := by decide +kernel
theorem d_RF_robotAt_9 : decode prog_1_method_24_code 9 = .ok (.arraylength, 1) := by decide +kernel
theorem d_RF_robotAt_10 : decode prog_1_method_24_code 10 = .ok (.if_icmp .ge 12, 3) := by decide +kernel
theorem d_RF_robotAt_13 : decode prog_1_method_24_code 13 = .ok (.aload_n 0, 1) := by decide +kernel
theorem d_RF_robotAt_14 : decode prog_1_method_24_code 14 = .ok (.getfield 24, 3) := by decide +kernel
theorem d_RF_robotAt_17 : decode prog_1_method_24_code 17 = .ok (.iload_n 1, 1) := by decide +kernel
theorem d_RF_robotAt_18 : decode prog_1_method_24_code 18 = .ok (.aaload, 1) := by decide +kernel
theorem d_RF_robotAt_19 : decode prog_1_method_24_code 19 = .ok (.goto 4, 3) := by decide +kernel
theorem d_RF_robotAt_22 : decode prog_1_method_24_code 22 = .ok (.aconst_null, 1) := by decide +kernel
theorem d_RF_robotAt_23 : decode prog_1_method_24_code 23 = .ok (.astore_n 2, 1) := by decide +kernel
theorem d_RF_robotAt_24 : decode prog_1_method_24_code 24 = .ok (.aload_n 2, 1) := by decide +kernel
theorem d_RF_robotAt_25 : decode prog_1_method_24_code 25 = .ok (.ifnonnull 14, 3) := by decide +kernel
theorem d_RF_robotAt_28 : decode prog_1_method_24_code 28 = .ok (.new 302, 3) := by decide +kernel
theorem d_RF_robotAt_31 : decode prog_1_method_24_code 31 = .ok (.dup, 1) := by decide +kernel
theorem d_RF_robotAt_32 : decode prog_1_method_24_code 32 = .ok (.ldc_w 307, 3) := by decide +kernel
theorem d_RF_robotAt_35 : decode prog_1_method_24_code 35 = .ok (.invokespecial 306, 3) := by decide +kernel
theorem d_RF_robotAt_38 : decode prog_1_method_24_code 38 = .ok (.athrow, 1) := by decide +kernel
theorem d_RF_robotAt_39 : decode prog_1_method_24_code 39 = .ok (.aload_n 2, 1) := by decide +kernel
theorem d_RF_robotAt_40 : decode prog_1_method_24_code 40 = .ok (.areturn, 1) := by decide +kernel
theorem d_Track_areConnected_0 : decode prog_7_method_7_code 0 = .ok (.aload_n 0, 1) := by decide +kernel
theorem d_Track_areConnected_1 : decode prog_7_method_7_code 1 = .ok (.getfield 9, 3) := by decide +kernel
theorem d_Track_areConnected_4 : decode prog_7_method_7_code 4 = .ok (.iload_n 1, 1) := by decide +kernel
theorem d_Track_areConnected_5 : decode prog_7_method_7_code 5 = .ok (.iaload, 1) := by decide +kernel
theorem d_Track_areConnected_6 : decode prog_7_method_7_code 6 = .ok (.iload_n 2, 1) := by decide +kernel
theorem d_Track_areConnected_7 : decode prog_7_method_7_code 7 = .ok (.invokestatic 19, 3) := by decide +kernel
theorem d_Track_areConnected_10 : decode prog_7_method_7_code 10 = .ok (.ireturn, 1) := by decide +kernel
theorem d_RF_holds_0 : decode prog_1_method_30_code 0 = .ok (.iload_n 0, 1) := by decide +kernel
theorem d_RF_holds_1 : decode prog_1_method_30_code 1 = .ok (.iload_n 1, 1) := by decide +kernel
theorem d_RF_holds_2 : decode prog_1_method_30_code 2 = .ok (.ishr, 1) := by decide +kernel
theorem d_RF_holds_3 : decode prog_1_method_30_code 3 = .ok (.iconst 1, 1) := by decide +kernel
theorem d_RF_holds_4 : decode prog_1_method_30_code 4 = .ok (.iand, 1) := by decide +kernel
theorem d_RF_holds_5 : decode prog_1_method_30_code 5 = .ok (.iconst 1, 1) := by decide +kernel
theorem d_RF_holds_6 : decode prog_1_method_30_code 6 = .ok (.if_icmp .ne 7, 3) := by decide +kernel
theorem d_RF_holds_9 : decode prog_1_method_30_code 9 = .ok (.iconst 1, 1) := by decide +kernel
theorem d_RF_holds_10 : decode prog_1_method_30_code 10 = .ok (.goto 4, 3) := by decide +kernel
theorem d_RF_holds_13 : decode prog_1_method_30_code 13 = .ok (.iconst 0, 1) := by decide +kernel
theorem d_RF_holds_14 : decode prog_1_method_30_code 14 = .ok (.ireturn, 1) := by decide +kernel
theorem d_Law_load_0 : decode method_8_code 0 = .ok (.aload_n 0, 1) := by decide +kernel
theorem d_Law_load_1 : decode method_8_code 1 = .ok (.iload_n 1, 1) := by decide +kernel
theorem d_Law_load_2 : decode method_8_code 2 = .ok (.iload_n 2, 1) := by decide +kernel
theorem d_Law_load_3 : decode method_8_code 3 = .ok (.invokevirtual 36, 3) := by decide +kernel
theorem d_Law_load_6 : decode method_8_code 6 = .ok (.goto 12, 3) := by decide +kernel
theorem d_Law_load_9 : decode method_8_code 9 = .ok (.astore_n 3, 1) := by decide +kernel
theorem d_Law_load_10 : decode method_8_code 10 = .ok (.iconst 1, 1) := by decide +kernel
theorem d_Law_load_11 : decode method_8_code 11 = .ok (.ireturn, 1) := by decide +kernel
theorem d_Law_load_12 : decode method_8_code 12 = .ok (.astore_n 3, 1) := by decide +kernel
theorem d_Law_load_13 : decode method_8_code 13 = .ok (.iconst 2, 1) := by decide +kernel
theorem d_Law_load_14 : decode method_8_code 14 = .ok (.ireturn, 1) := by decide +kernel
theorem d_Law_load_15 : decode method_8_code 15 = .ok (.astore_n 3, 1) := by decide +kernel
theorem d_Law_load_16 : decode method_8_code 16 = .ok (.iconst 3, 1) := by decide +kernel
theorem d_Law_load_17 : decode method_8_code 17 = .ok (.ireturn, 1) := by decide +kernel
theorem d_Law_load_18 : decode method_8_code 18 = .ok (.iconst 0, 1) := by decide +kernel
theorem d_Law_load_19 : decode method_8_code 19 = .ok (.ireturn, 1) := by decide +kernel
theorem d_RF_load_0 : decode prog_1_method_7_code 0 = .ok (.aload_n 0, 1) := by decide +kernel
theorem d_RF_load_1 : decode prog_1_method_7_code 1 = .ok (.iload_n 1, 1) := by decide +kernel
theorem d_RF_load_2 : decode prog_1_method_7_code 2 = .ok (.invokevirtual 97, 3) := by decide +kernel
theorem d_RF_load_5 : decode prog_1_method_7_code 5 = .ok (.astore_n 3, 1) := by decide +kernel
theorem d_RF_load_6 : decode prog_1_method_7_code 6 = .ok (.iload_n 2, 1) := by decide +kernel
theorem d_RF_load_7 : decode prog_1_method_7_code 7 = .ok (.iconst (-1), 1) := by decide +kernel
theorem d_RF_load_8 : decode prog_1_method_7_code 8 = .ok (.if_icmp .lt 9, 3) := by decide +kernel
theorem d_RF_load_11 : decode prog_1_method_7_code 11 = .ok (.iload_n 2, 1) := by decide +kernel
theorem d_RF_load_12 : decode prog_1_method_7_code 12 = .ok (.bipush 99, 2) := by decide +kernel
theorem d_RF_load_14 : decode prog_1_method_7_code 14 = .ok (.if_icmp .le 13, 3) := by decide +kernel
theorem d_RF_load_17 : decode prog_1_method_7_code 17 = .ok (.new 66, 3) := by decide +kernel
theorem d_RF_load_20 : decode prog_1_method_7_code 20 = .ok (.dup, 1) := by decide +kernel
theorem d_RF_load_21 : decode prog_1_method_7_code 21 = .ok (.ldc 118, 2) := by decide +kernel
theorem d_RF_load_23 : decode prog_1_method_7_code 23 = .ok (.invokespecial 70, 3) := by decide +kernel
theorem d_RF_load_26 : decode prog_1_method_7_code 26 = .ok (.athrow, 1) := by decide +kernel
theorem d_RF_load_27 : decode prog_1_method_7_code 27 = .ok (.aload_n 3, 1) := by decide +kernel
theorem d_RF_load_28 : decode prog_1_method_7_code 28 = .ok (.getfield 101, 3) := by decide +kernel
theorem d_RF_load_31 : decode prog_1_method_7_code 31 = .ok (.iconst 2, 1) := by decide +kernel
theorem d_RF_load_32 : decode prog_1_method_7_code 32 = .ok (.if_icmp .ne 13, 3) := by decide +kernel
theorem d_RF_load_35 : decode prog_1_method_7_code 35 = .ok (.new 104, 3) := by decide +kernel
theorem d_RF_load_38 : decode prog_1_method_7_code 38 = .ok (.dup, 1) := by decide +kernel
theorem d_RF_load_39 : decode prog_1_method_7_code 39 = .ok (.ldc 120, 2) := by decide +kernel
theorem d_RF_load_41 : decode prog_1_method_7_code 41 = .ok (.invokespecial 108, 3) := by decide +kernel
theorem d_RF_load_44 : decode prog_1_method_7_code 44 = .ok (.athrow, 1) := by decide +kernel
theorem d_RF_load_45 : decode prog_1_method_7_code 45 = .ok (.aload_n 3, 1) := by decide +kernel
theorem d_RF_load_46 : decode prog_1_method_7_code 46 = .ok (.iload_n 2, 1) := by decide +kernel
theorem d_RF_load_47 : decode prog_1_method_7_code 47 = .ok (.putfield 122, 3) := by decide +kernel
theorem d_RF_load_50 : decode prog_1_method_7_code 50 = .ok (.return_, 1) := by decide +kernel
theorem d_Law_fault_0 : decode method_9_code 0 = .ok (.aload_n 3, 1) := by decide +kernel
theorem d_Law_fault_1 : decode method_9_code 1 = .ok (.iconst 0, 1) := by decide +kernel
theorem d_Law_fault_2 : decode method_9_code 2 = .ok (.aload_n 0, 1) := by decide +kernel
theorem d_Law_fault_3 : decode method_9_code 3 = .ok (.iload_n 1, 1) := by decide +kernel
theorem d_Law_fault_4 : decode method_9_code 4 = .ok (.iload_n 2, 1) := by decide +kernel
theorem d_Law_fault_5 : decode method_9_code 5 = .ok (.invokevirtual 39, 3) := by decide +kernel
theorem d_Law_fault_8 : decode method_9_code 8 = .ok (.i2l, 1) := by decide +kernel
theorem d_Law_fault_9 : decode method_9_code 9 = .ok (.lastore, 1) := by decide +kernel
theorem d_Law_fault_10 : decode method_9_code 10 = .ok (.goto 19, 3) := by decide +kernel
theorem d_Law_fault_13 : decode method_9_code 13 = .ok (.astore 4, 2) := by decide +kernel
theorem d_Law_fault_15 : decode method_9_code 15 = .ok (.iconst 1, 1) := by decide +kernel
theorem d_Law_fault_16 : decode method_9_code 16 = .ok (.ireturn, 1) := by decide +kernel
theorem d_Law_fault_17 : decode method_9_code 17 = .ok (.astore 4, 2) := by decide +kernel
theorem d_Law_fault_19 : decode method_9_code 19 = .ok (.iconst 2, 1) := by decide +kernel
theorem d_Law_fault_20 : decode method_9_code 20 = .ok (.ireturn, 1) := by decide +kernel
theorem d_Law_fault_21 : decode method_9_code 21 = .ok (.astore 4, 2) := by decide +kernel
theorem d_Law_fault_23 : decode method_9_code 23 = .ok (.iconst 3, 1) := by decide +kernel
theorem d_Law_fault_24 : decode method_9_code 24 = .ok (.ireturn, 1) := by decide +kernel
theorem d_Law_fault_25 : decode method_9_code 25 = .ok (.astore 4, 2) := by decide +kernel
theorem d_Law_fault_27 : decode method_9_code 27 = .ok (.iconst 4, 1) := by decide +kernel
theorem d_Law_fault_28 : decode method_9_code 28 = .ok (.ireturn, 1) := by decide +kernel
theorem d_Law_fault_29 : decode method_9_code 29 = .ok (.iconst 0, 1) := by decide +kernel
theorem d_Law_fault_30 : decode method_9_code 30 = .ok (.ireturn, 1) := by decide +kernel
theorem d_RF_fault_0 : decode prog_1_method_8_code 0 = .ok (.aload_n 0, 1) := by decide +kernel
theorem d_RF_fault_1 : decode prog_1_method_8_code 1 = .ok (.iload_n 1, 1) := by decide +kernel
theorem d_RF_fault_2 : decode prog_1_method_8_code 2 = .ok (.invokevirtual 97, 3) := by decide +kernel
theorem d_RF_fault_5 : decode prog_1_method_8_code 5 = .ok (.astore_n 3, 1) := by decide +kernel
theorem d_RF_fault_6 : decode prog_1_method_8_code 6 = .ok (.iload_n 2, 1) := by decide +kernel
theorem d_RF_fault_7 : decode prog_1_method_8_code 7 = .ok (.invokestatic 86, 3) := by decide +kernel
theorem d_RF_fault_10 : decode prog_1_method_8_code 10 = .ok (.aload_n 3, 1) := by decide +kernel
theorem d_RF_fault_11 : decode prog_1_method_8_code 11 = .ok (.iload_n 2, 1) := by decide +kernel
theorem d_RF_fault_12 : decode prog_1_method_8_code 12 = .ok (.invokestatic 125, 3) := by decide +kernel
theorem d_RF_fault_15 : decode prog_1_method_8_code 15 = .ok (.ifCond .eq 13, 3) := by decide +kernel
theorem d_RF_fault_18 : decode prog_1_method_8_code 18 = .ok (.new 104, 3) := by decide +kernel
theorem d_RF_fault_21 : decode prog_1_method_8_code 21 = .ok (.dup, 1) := by decide +kernel
theorem d_RF_fault_22 : decode prog_1_method_8_code 22 = .ok (.ldc 129, 2) := by decide +kernel
theorem d_RF_fault_24 : decode prog_1_method_8_code 24 = .ok (.invokespecial 108, 3) := by decide +kernel
theorem d_RF_fault_27 : decode prog_1_method_8_code 27 = .ok (.athrow, 1) := by decide +kernel
theorem d_RF_fault_28 : decode prog_1_method_8_code 28 = .ok (.aload_n 0, 1) := by decide +kernel
theorem d_RF_fault_29 : decode prog_1_method_8_code 29 = .ok (.invokevirtual 131, 3) := by decide +kernel
theorem d_RF_fault_32 : decode prog_1_method_8_code 32 = .ok (.ifCond .ne 13, 3) := by decide +kernel
theorem d_RF_fault_35 : decode prog_1_method_8_code 35 = .ok (.new 51, 3) := by decide +kernel
theorem d_RF_fault_38 : decode prog_1_method_8_code 38 = .ok (.dup, 1) := by decide +kernel
theorem d_RF_fault_39 : decode prog_1_method_8_code 39 = .ok (.ldc 134, 2) := by decide +kernel
theorem d_RF_fault_41 : decode prog_1_method_8_code 41 = .ok (.invokespecial 55, 3) := by decide +kernel
theorem d_RF_fault_44 : decode prog_1_method_8_code 44 = .ok (.athrow, 1) := by decide +kernel
theorem d_RF_fault_45 : decode prog_1_method_8_code 45 = .ok (.aload_n 0, 1) := by decide +kernel
theorem d_RF_fault_46 : decode prog_1_method_8_code 46 = .ok (.aload_n 3, 1) := by decide +kernel
theorem d_RF_fault_47 : decode prog_1_method_8_code 47 = .ok (.iload_n 2, 1) := by decide +kernel
theorem d_RF_fault_48 : decode prog_1_method_8_code 48 = .ok (.iconst 0, 1) := by decide +kernel
theorem d_RF_fault_49 : decode prog_1_method_8_code 49 = .ok (.invokevirtual 136, 3) := by decide +kernel
theorem d_RF_fault_52 : decode prog_1_method_8_code 52 = .ok (.ireturn, 1) := by decide +kernel
theorem d_RF_hasNoLoadToLose_0 : decode prog_1_method_31_code 0 = .ok (.iload_n 1, 1) := by decide +kernel
theorem d_RF_hasNoLoadToLose_1 : decode prog_1_method_31_code 1 = .ok (.iconst 2, 1) := by decide +kernel
theorem d_RF_hasNoLoadToLose_2 : decode prog_1_method_31_code 2 = .ok (.if_icmp .ne 15, 3) := by decide +kernel
theorem d_RF_hasNoLoadToLose_5 : decode prog_1_method_31_code 5 = .ok (.aload_n 0, 1) := by decide +kernel
theorem d_RF_hasNoLoadToLose_6 : decode prog_1_method_31_code 6 = .ok (.getfield 122, 3) := by decide +kernel
theorem d_RF_hasNoLoadToLose_9 : decode prog_1_method_31_code 9 = .ok (.iconst (-1), 1) := by decide +kernel
theorem d_RF_hasNoLoadToLose_10 : decode prog_1_method_31_code 10 = .ok (.if_icmp .ne 7, 3) := by decide +kernel
theorem d_RF_hasNoLoadToLose_13 : decode prog_1_method_31_code 13 = .ok (.iconst 1, 1) := by decide +kernel
theorem d_RF_hasNoLoadToLose_14 : decode prog_1_method_31_code 14 = .ok (.goto 4, 3) := by decide +kernel
theorem d_RF_hasNoLoadToLose_17 : decode prog_1_method_31_code 17 = .ok (.iconst 0, 1) := by decide +kernel
theorem d_RF_hasNoLoadToLose_18 : decode prog_1_method_31_code 18 = .ok (.ireturn, 1) := by decide +kernel
theorem d_RF_hasRoomForFault_0 : decode prog_1_method_32_code 0 = .ok (.aload_n 0, 1) := by decide +kernel
theorem d_RF_hasRoomForFault_1 : decode prog_1_method_32_code 1 = .ok (.getfield 283, 3) := by decide +kernel
theorem d_RF_hasRoomForFault_4 : decode prog_1_method_32_code 4 = .ok (.aload_n 0, 1) := by decide +kernel
theorem d_RF_hasRoomForFault_5 : decode prog_1_method_32_code 5 = .ok (.getfield 30, 3) := by decide +kernel
theorem d_RF_hasRoomForFault_8 : decode prog_1_method_32_code 8 = .ok (.arraylength, 1) := by decide +kernel
theorem d_RF_hasRoomForFault_9 : decode prog_1_method_32_code 9 = .ok (.if_icmp .ge 19, 3) := by decide +kernel
theorem d_RF_hasRoomForFault_12 : decode prog_1_method_32_code 12 = .ok (.aload_n 0, 1) := by decide +kernel
theorem d_RF_hasRoomForFault_13 : decode prog_1_method_32_code 13 = .ok (.getfield 289, 3) := by decide +kernel
theorem d_RF_hasRoomForFault_16 : decode prog_1_method_32_code 16 = .ok (.aload_n 0, 1) := by decide +kernel
theorem d_RF_hasRoomForFault_17 : decode prog_1_method_32_code 17 = .ok (.getfield 36, 3) := by decide +kernel
theorem d_RF_hasRoomForFault_20 : decode prog_1_method_32_code 20 = .ok (.arraylength, 1) := by decide +kernel
theorem d_RF_hasRoomForFault_21 : decode prog_1_method_32_code 21 = .ok (.if_icmp .ge 7, 3) := by decide +kernel
theorem d_RF_hasRoomForFault_24 : decode prog_1_method_32_code 24 = .ok (.iconst 1, 1) := by decide +kernel
theorem d_RF_hasRoomForFault_25 : decode prog_1_method_32_code 25 = .ok (.goto 4, 3) := by decide +kernel
theorem d_RF_hasRoomForFault_28 : decode prog_1_method_32_code 28 = .ok (.iconst 0, 1) := by decide +kernel
theorem d_RF_hasRoomForFault_29 : decode prog_1_method_32_code 29 = .ok (.ireturn, 1) := by decide +kernel
theorem d_RF_openOrNewFault_0 : decode prog_1_method_33_code 0 = .ok (.aload_n 0, 1) := by decide +kernel
theorem d_RF_openOrNewFault_1 : decode prog_1_method_33_code 1 = .ok (.aload_n 1, 1) := by decide +kernel
theorem d_RF_openOrNewFault_2 : decode prog_1_method_33_code 2 = .ok (.iload_n 2, 1) := by decide +kernel
theorem d_RF_openOrNewFault_3 : decode prog_1_method_33_code 3 = .ok (.invokevirtual 319, 3) := by decide +kernel
theorem d_RF_openOrNewFault_6 : decode prog_1_method_33_code 6 = .ok (.astore 4, 2) := by decide +kernel
theorem d_RF_openOrNewFault_8 : decode prog_1_method_33_code 8 = .ok (.aload 4, 2) := by decide +kernel
theorem d_RF_openOrNewFault_10 : decode prog_1_method_33_code 10 = .ok (.ifnonnull 13, 3) := by decide +kernel
theorem d_RF_openOrNewFault_13 : decode prog_1_method_33_code 13 = .ok (.aload_n 0, 1) := by decide +kernel
theorem d_RF_openOrNewFault_14 : decode prog_1_method_33_code 14 = .ok (.aload_n 1, 1) := by decide +kernel
theorem d_RF_openOrNewFault_15 : decode prog_1_method_33_code 15 = .ok (.iload_n 2, 1) := by decide +kernel
theorem d_RF_openOrNewFault_16 : decode prog_1_method_33_code 16 = .ok (.iload_n 3, 1) := by decide +kernel
theorem d_RF_openOrNewFault_17 : decode prog_1_method_33_code 17 = .ok (.invokevirtual 323, 3) := by decide +kernel
theorem d_RF_openOrNewFault_20 : decode prog_1_method_33_code 20 = .ok (.goto 9, 3) := by decide +kernel
theorem d_RF_openOrNewFault_23 : decode prog_1_method_33_code 23 = .ok (.aload 4, 2) := by decide +kernel
theorem d_RF_openOrNewFault_25 : decode prog_1_method_33_code 25 = .ok (.getfield 326, 3) := by decide +kernel
theorem d_RF_openOrNewFault_28 : decode prog_1_method_33_code 28 = .ok (.ineg, 1) := by decide +kernel
theorem d_RF_openOrNewFault_29 : decode prog_1_method_33_code 29 = .ok (.ireturn, 1) := by decide +kernel
theorem d_RF_openFault_0 : decode prog_1_method_34_code 0 = .ok (.aload_n 0, 1) := by decide +kernel
theorem d_RF_openFault_1 : decode prog_1_method_34_code 1 = .ok (.getfield 30, 3) := by decide +kernel
theorem d_RF_openFault_4 : decode prog_1_method_34_code 4 = .ok (.astore_n 3, 1) := by decide +kernel
theorem d_RF_openFault_5 : decode prog_1_method_34_code 5 = .ok (.aload_n 3, 1) := by decide +kernel
theorem d_RF_openFault_6 : decode prog_1_method_34_code 6 = .ok (.arraylength, 1) := by decide +kernel
theorem d_RF_openFault_7 : decode prog_1_method_34_code 7 = .ok (.istore 4, 2) := by decide +kernel
theorem d_RF_openFault_9 : decode prog_1_method_34_code 9 = .ok (.iconst 0, 1) := by decide +kernel
theorem d_RF_openFault_10 : decode prog_1_method_34_code 10 = .ok (.istore 5, 2) := by decide +kernel
theorem d_RF_openFault_12 : decode prog_1_method_34_code 12 = .ok (.iload 5, 2) := by decide +kernel
theorem d_RF_openFault_14 : decode prog_1_method_34_code 14 = .ok (.iload 4, 2) := by decide +kernel
theorem d_RF_openFault_16 : decode prog_1_method_34_code 16 = .ok (.if_icmp .ge 49, 3) := by decide +kernel
theorem d_RF_openFault_19 : decode prog_1_method_34_code 19 = .ok (.aload_n 3, 1) := by decide +kernel
theorem d_RF_openFault_20 : decode prog_1_method_34_code 20 = .ok (.iload 5, 2) := by decide +kernel
theorem d_RF_openFault_22 : decode prog_1_method_34_code 22 = .ok (.aaload, 1) := by decide +kernel
theorem d_RF_openFault_23 : decode prog_1_method_34_code 23 = .ok (.astore 6, 2) := by decide +kernel
theorem d_RF_openFault_25 : decode prog_1_method_34_code 25 = .ok (.aload 6, 2) := by decide +kernel
theorem d_RF_openFault_27 : decode prog_1_method_34_code 27 = .ok (.ifnull 32, 3) := by decide +kernel
theorem d_RF_openFault_30 : decode prog_1_method_34_code 30 = .ok (.aload 6, 2) := by decide +kernel
theorem d_RF_openFault_32 : decode prog_1_method_34_code 32 = .ok (.invokevirtual 147, 3) := by decide +kernel
theorem d_RF_openFault_35 : decode prog_1_method_34_code 35 = .ok (.ifCond .eq 24, 3) := by decide +kernel
theorem d_RF_openFault_38 : decode prog_1_method_34_code 38 = .ok (.aload 6, 2) := by decide +kernel
theorem d_RF_openFault_40 : decode prog_1_method_34_code 40 = .ok (.getfield 257, 3) := by decide +kernel
theorem d_RF_openFault_43 : decode prog_1_method_34_code 43 = .ok (.aload_n 1, 1) := by decide +kernel
theorem d_RF_openFault_44 : decode prog_1_method_34_code 44 = .ok (.if_acmp .ne 15, 3) := by decide +kernel
theorem d_RF_openFault_47 : decode prog_1_method_34_code 47 = .ok (.aload 6, 2) := by decide +kernel
theorem d_RF_openFault_49 : decode prog_1_method_34_code 49 = .ok (.getfield 258, 3) := by decide +kernel
theorem d_RF_openFault_52 : decode prog_1_method_34_code 52 = .ok (.iload_n 2, 1) := by decide +kernel
theorem d_RF_openFault_53 : decode prog_1_method_34_code 53 = .ok (.if_icmp .ne 6, 3) := by decide +kernel
theorem d_RF_openFault_56 : decode prog_1_method_34_code 56 = .ok (.aload 6, 2) := by decide +kernel
theorem d_RF_openFault_58 : decode prog_1_method_34_code 58 = .ok (.areturn, 1) := by decide +kernel
theorem d_RF_openFault_59 : decode prog_1_method_34_code 59 = .ok (.iinc 5 1, 3) := by decide +kernel
theorem d_RF_openFault_62 : decode prog_1_method_34_code 62 = .ok (.goto (-50), 3) := by decide +kernel
theorem d_RF_openFault_65 : decode prog_1_method_34_code 65 = .ok (.aconst_null, 1) := by decide +kernel
theorem d_RF_openFault_66 : decode prog_1_method_34_code 66 = .ok (.areturn, 1) := by decide +kernel
theorem d_RF_newFault_0 : decode prog_1_method_35_code 0 = .ok (.aload_n 0, 1) := by decide +kernel
theorem d_RF_newFault_1 : decode prog_1_method_35_code 1 = .ok (.getfield 18, 3) := by decide +kernel
theorem d_RF_newFault_4 : decode prog_1_method_35_code 4 = .ok (.iload_n 2, 1) := by decide +kernel
theorem d_RF_newFault_5 : decode prog_1_method_35_code 5 = .ok (.aaload, 1) := by decide +kernel
theorem d_RF_newFault_6 : decode prog_1_method_35_code 6 = .ok (.astore 4, 2) := by decide +kernel
theorem d_RF_newFault_8 : decode prog_1_method_35_code 8 = .ok (.new 28, 3) := by decide +kernel
theorem d_RF_newFault_11 : decode prog_1_method_35_code 11 = .ok (.dup, 1) := by decide +kernel
theorem d_RF_newFault_12 : decode prog_1_method_35_code 12 = .ok (.aload_n 0, 1) := by decide +kernel
theorem d_RF_newFault_13 : decode prog_1_method_35_code 13 = .ok (.getfield 283, 3) := by decide +kernel
theorem d_RF_newFault_16 : decode prog_1_method_35_code 16 = .ok (.iconst 1, 1) := by decide +kernel
theorem d_RF_newFault_17 : decode prog_1_method_35_code 17 = .ok (.iadd, 1) := by decide +kernel
theorem d_RF_newFault_18 : decode prog_1_method_35_code 18 = .ok (.aload_n 1, 1) := by decide +kernel
theorem d_RF_newFault_19 : decode prog_1_method_35_code 19 = .ok (.iload_n 2, 1) := by decide +kernel
theorem d_RF_newFault_20 : decode prog_1_method_35_code 20 = .ok (.aload_n 0, 1) := by decide +kernel
theorem d_RF_newFault_21 : decode prog_1_method_35_code 21 = .ok (.getfield 158, 3) := by decide +kernel
theorem d_RF_newFault_24 : decode prog_1_method_35_code 24 = .ok (.aload 4, 2) := by decide +kernel
theorem d_RF_newFault_26 : decode prog_1_method_35_code 26 = .ok (.getfield 327, 3) := by decide +kernel
theorem d_RF_newFault_29 : decode prog_1_method_35_code 29 = .ok (.iload_n 3, 1) := by decide +kernel
theorem d_RF_newFault_30 : decode prog_1_method_35_code 30 = .ok (.invokespecial 330, 3) := by decide +kernel
theorem d_RF_newFault_33 : decode prog_1_method_35_code 33 = .ok (.astore 5, 2) := by decide +kernel
theorem d_RF_newFault_35 : decode prog_1_method_35_code 35 = .ok (.aload_n 0, 1) := by decide +kernel
theorem d_RF_newFault_36 : decode prog_1_method_35_code 36 = .ok (.getfield 30, 3) := by decide +kernel
theorem d_RF_newFault_39 : decode prog_1_method_35_code 39 = .ok (.aload_n 0, 1) := by decide +kernel
theorem d_RF_newFault_40 : decode prog_1_method_35_code 40 = .ok (.getfield 283, 3) := by decide +kernel
theorem d_RF_newFault_43 : decode prog_1_method_35_code 43 = .ok (.aload 5, 2) := by decide +kernel
theorem d_RF_newFault_45 : decode prog_1_method_35_code 45 = .ok (.aastore, 1) := by decide +kernel
theorem d_RF_newFault_46 : decode prog_1_method_35_code 46 = .ok (.aload_n 0, 1) := by decide +kernel
theorem d_RF_newFault_47 : decode prog_1_method_35_code 47 = .ok (.dup, 1) := by decide +kernel
theorem d_RF_newFault_48 : decode prog_1_method_35_code 48 = .ok (.getfield 283, 3) := by decide +kernel
theorem d_RF_newFault_51 : decode prog_1_method_35_code 51 = .ok (.iconst 1, 1) := by decide +kernel
theorem d_RF_newFault_52 : decode prog_1_method_35_code 52 = .ok (.iadd, 1) := by decide +kernel
theorem d_RF_newFault_53 : decode prog_1_method_35_code 53 = .ok (.putfield 283, 3) := by decide +kernel
theorem d_RF_newFault_56 : decode prog_1_method_35_code 56 = .ok (.aload 5, 2) := by decide +kernel
theorem d_RF_newFault_58 : decode prog_1_method_35_code 58 = .ok (.aload_n 0, 1) := by decide +kernel
theorem d_RF_newFault_59 : decode prog_1_method_35_code 59 = .ok (.aload 5, 2) := by decide +kernel
theorem d_RF_newFault_61 : decode prog_1_method_35_code 61 = .ok (.aload 4, 2) := by decide +kernel
theorem d_RF_newFault_63 : decode prog_1_method_35_code 63 = .ok (.getfield 333, 3) := by decide +kernel
theorem d_RF_newFault_66 : decode prog_1_method_35_code 66 = .ok (.invokevirtual 334, 3) := by decide +kernel
theorem d_RF_newFault_69 : decode prog_1_method_35_code 69 = .ok (.putfield 262, 3) := by decide +kernel
theorem d_RF_newFault_72 : decode prog_1_method_35_code 72 = .ok (.aload_n 1, 1) := by decide +kernel
theorem d_RF_newFault_73 : decode prog_1_method_35_code 73 = .ok (.iload_n 2, 1) := by decide +kernel
theorem d_RF_newFault_74 : decode prog_1_method_35_code 74 = .ok (.aload_n 0, 1) := by decide +kernel
theorem d_RF_newFault_75 : decode prog_1_method_35_code 75 = .ok (.getfield 158, 3) := by decide +kernel
theorem d_RF_newFault_78 : decode prog_1_method_35_code 78 = .ok (.aload 4, 2) := by decide +kernel
theorem d_RF_newFault_80 : decode prog_1_method_35_code 80 = .ok (.getfield 338, 3) := by decide +kernel
theorem d_RF_newFault_83 : decode prog_1_method_35_code 83 = .ok (.invokevirtual 341, 3) := by decide +kernel
theorem d_RF_newFault_86 : decode prog_1_method_35_code 86 = .ok (.aload 5, 2) := by decide +kernel
theorem d_RF_newFault_88 : decode prog_1_method_35_code 88 = .ok (.getfield 326, 3) := by decide +kernel
theorem d_RF_newFault_91 : decode prog_1_method_35_code 91 = .ok (.ireturn, 1) := by decide +kernel
theorem d_Fault_init_0 : decode prog_3_method_1_code 0 = .ok (.aload_n 0, 1) := by decide +kernel
theorem d_Fault_init_1 : decode prog_3_method_1_code 1 = .ok (.invokespecial 3, 3) := by decide +kernel
theorem d_Fault_init_4 : decode prog_3_method_1_code 4 = .ok (.aload_n 0, 1) := by decide +kernel
theorem d_Fault_init_5 : decode prog_3_method_1_code 5 = .ok (.iconst (-1), 1) := by decide +kernel
theorem d_Fault_init_6 : decode prog_3_method_1_code 6 = .ok (.putfield 9, 3) := by decide +kernel
theorem d_Fault_init_9 : decode prog_3_method_1_code 9 = .ok (.aload_n 0, 1) := by decide +kernel
theorem d_Fault_init_10 : decode prog_3_method_1_code 10 = .ok (.iconst 0, 1) := by decide +kernel
theorem d_Fault_init_11 : decode prog_3_method_1_code 11 = .ok (.putfield 15, 3) := by decide +kernel
theorem d_Fault_init_14 : decode prog_3_method_1_code 14 = .ok (.aload_n 0, 1) := by decide +kernel
theorem d_Fault_init_15 : decode prog_3_method_1_code 15 = .ok (.iconst (-1), 1) := by decide +kernel
theorem d_Fault_init_16 : decode prog_3_method_1_code 16 = .ok (.putfield 18, 3) := by decide +kernel
theorem d_Fault_init_19 : decode prog_3_method_1_code 19 = .ok (.aload_n 0, 1) := by decide +kernel
theorem d_Fault_init_20 : decode prog_3_method_1_code 20 = .ok (.iload_n 1, 1) := by decide +kernel
theorem d_Fault_init_21 : decode prog_3_method_1_code 21 = .ok (.putfield 21, 3) := by decide +kernel
theorem d_Fault_init_24 : decode prog_3_method_1_code 24 = .ok (.aload_n 0, 1) := by decide +kernel
theorem d_Fault_init_25 : decode prog_3_method_1_code 25 = .ok (.aload_n 2, 1) := by decide +kernel
theorem d_Fault_init_26 : decode prog_3_method_1_code 26 = .ok (.putfield 24, 3) := by decide +kernel
theorem d_Fault_init_29 : decode prog_3_method_1_code 29 = .ok (.aload_n 0, 1) := by decide +kernel
theorem d_Fault_init_30 : decode prog_3_method_1_code 30 = .ok (.iload_n 3, 1) := by decide +kernel
theorem d_Fault_init_31 : decode prog_3_method_1_code 31 = .ok (.putfield 28, 3) := by decide +kernel
theorem d_Fault_init_34 : decode prog_3_method_1_code 34 = .ok (.aload_n 0, 1) := by decide +kernel
theorem d_Fault_init_35 : decode prog_3_method_1_code 35 = .ok (.iload 4, 2) := by decide +kernel
theorem d_Fault_init_37 : decode prog_3_method_1_code 37 = .ok (.putfield 31, 3) := by decide +kernel
theorem d_Fault_init_40 : decode prog_3_method_1_code 40 = .ok (.aload_n 0, 1) := by decide +kernel
theorem d_Fault_init_41 : decode prog_3_method_1_code 41 = .ok (.iload 5, 2) := by decide +kernel
theorem d_Fault_init_43 : decode prog_3_method_1_code 43 = .ok (.putfield 34, 3) := by decide +kernel
theorem d_Fault_init_46 : decode prog_3_method_1_code 46 = .ok (.aload_n 0, 1) := by decide +kernel
theorem d_Fault_init_47 : decode prog_3_method_1_code 47 = .ok (.iload 6, 2) := by decide +kernel
theorem d_Fault_init_49 : decode prog_3_method_1_code 49 = .ok (.putfield 37, 3) := by decide +kernel
theorem d_Fault_init_52 : decode prog_3_method_1_code 52 = .ok (.aload_n 0, 1) := by decide +kernel
theorem d_Fault_init_53 : decode prog_3_method_1_code 53 = .ok (.aload_n 2, 1) := by decide +kernel
theorem d_Fault_init_54 : decode prog_3_method_1_code 54 = .ok (.getfield 41, 3) := by decide +kernel
theorem d_Fault_init_57 : decode prog_3_method_1_code 57 = .ok (.putfield 46, 3) := by decide +kernel
theorem d_Fault_init_60 : decode prog_3_method_1_code 60 = .ok (.aload_n 0, 1) := by decide +kernel
theorem d_Fault_init_61 : decode prog_3_method_1_code 61 = .ok (.iload_n 3, 1) := by decide +kernel
theorem d_Fault_init_62 : decode prog_3_method_1_code 62 = .ok (.iconst 2, 1) := by decide +kernel
theorem d_Fault_init_63 : decode prog_3_method_1_code 63 = .ok (.if_icmp .ne 10, 3) := by decide +kernel
theorem d_Fault_init_66 : decode prog_3_method_1_code 66 = .ok (.aload_n 2, 1) := by decide +kernel
theorem d_Fault_init_67 : decode prog_3_method_1_code 67 = .ok (.getfield 47, 3) := by decide +kernel
theorem d_Fault_init_70 : decode prog_3_method_1_code 70 = .ok (.goto 4, 3) := by decide +kernel
theorem d_Fault_init_73 : decode prog_3_method_1_code 73 = .ok (.iconst (-1), 1) := by decide +kernel
theorem d_Fault_init_74 : decode prog_3_method_1_code 74 = .ok (.putfield 50, 3) := by decide +kernel
theorem d_Fault_init_77 : decode prog_3_method_1_code 77 = .ok (.return_, 1) := by decide +kernel
theorem d_RF_alarmFor_0 : decode prog_1_method_36_code 0 = .ok (.aload_n 0, 1) := by decide +kernel
theorem d_RF_alarmFor_1 : decode prog_1_method_36_code 1 = .ok (.aload_n 1, 1) := by decide +kernel
theorem d_RF_alarmFor_2 : decode prog_1_method_36_code 2 = .ok (.getfield 257, 3) := by decide +kernel
theorem d_RF_alarmFor_5 : decode prog_1_method_36_code 5 = .ok (.aload_n 1, 1) := by decide +kernel
theorem d_RF_alarmFor_6 : decode prog_1_method_36_code 6 = .ok (.getfield 258, 3) := by decide +kernel
theorem d_RF_alarmFor_9 : decode prog_1_method_36_code 9 = .ok (.invokevirtual 345, 3) := by decide +kernel
theorem d_RF_alarmFor_12 : decode prog_1_method_36_code 12 = .ok (.astore_n 3, 1) := by decide +kernel
theorem d_RF_alarmFor_13 : decode prog_1_method_36_code 13 = .ok (.aload_n 3, 1) := by decide +kernel
theorem d_RF_alarmFor_14 : decode prog_1_method_36_code 14 = .ok (.ifnull 30, 3) := by decide +kernel
theorem d_RF_alarmFor_17 : decode prog_1_method_36_code 17 = .ok (.aload_n 0, 1) := by decide +kernel
theorem d_RF_alarmFor_18 : decode prog_1_method_36_code 18 = .ok (.getfield 158, 3) := by decide +kernel
theorem d_RF_alarmFor_21 : decode prog_1_method_36_code 21 = .ok (.aload_n 3, 1) := by decide +kernel
theorem d_RF_alarmFor_22 : decode prog_1_method_36_code 22 = .ok (.getfield 248, 3) := by decide +kernel
theorem d_RF_alarmFor_25 : decode prog_1_method_36_code 25 = .ok (.getfield 252, 3) := by decide +kernel
theorem d_RF_alarmFor_28 : decode prog_1_method_36_code 28 = .ok (.isub, 1) := by decide +kernel
theorem d_RF_alarmFor_29 : decode prog_1_method_36_code 29 = .ok (.bipush 60, 2) := by decide +kernel
theorem d_RF_alarmFor_31 : decode prog_1_method_36_code 31 = .ok (.if_icmp .gt 13, 3) := by decide +kernel
theorem d_RF_alarmFor_34 : decode prog_1_method_36_code 34 = .ok (.aload_n 3, 1) := by decide +kernel
theorem d_RF_alarmFor_35 : decode prog_1_method_36_code 35 = .ok (.aload_n 1, 1) := by decide +kernel
theorem d_RF_alarmFor_36 : decode prog_1_method_36_code 36 = .ok (.invokevirtual 349, 3) := by decide +kernel
theorem d_RF_alarmFor_39 : decode prog_1_method_36_code 39 = .ok (.aload_n 3, 1) := by decide +kernel
theorem d_RF_alarmFor_40 : decode prog_1_method_36_code 40 = .ok (.getfield 353, 3) := by decide +kernel
theorem d_RF_alarmFor_43 : decode prog_1_method_36_code 43 = .ok (.ireturn, 1) := by decide +kernel
theorem d_RF_alarmFor_44 : decode prog_1_method_36_code 44 = .ok (.new 34, 3) := by decide +kernel
theorem d_RF_alarmFor_47 : decode prog_1_method_36_code 47 = .ok (.dup, 1) := by decide +kernel
theorem d_RF_alarmFor_48 : decode prog_1_method_36_code 48 = .ok (.aload_n 0, 1) := by decide +kernel
theorem d_RF_alarmFor_49 : decode prog_1_method_36_code 49 = .ok (.getfield 289, 3) := by decide +kernel
theorem d_RF_alarmFor_52 : decode prog_1_method_36_code 52 = .ok (.aload_n 1, 1) := by decide +kernel
theorem d_RF_alarmFor_53 : decode prog_1_method_36_code 53 = .ok (.iload_n 2, 1) := by decide +kernel
theorem d_RF_alarmFor_54 : decode prog_1_method_36_code 54 = .ok (.invokespecial 354, 3) := by decide +kernel
theorem d_RF_alarmFor_57 : decode prog_1_method_36_code 57 = .ok (.astore 4, 2) := by decide +kernel
theorem d_RF_alarmFor_59 : decode prog_1_method_36_code 59 = .ok (.aload_n 0, 1) := by decide +kernel
theorem d_RF_alarmFor_60 : decode prog_1_method_36_code 60 = .ok (.getfield 36, 3) := by decide +kernel
theorem d_RF_alarmFor_63 : decode prog_1_method_36_code 63 = .ok (.aload_n 0, 1) := by decide +kernel
theorem d_RF_alarmFor_64 : decode prog_1_method_36_code 64 = .ok (.getfield 289, 3) := by decide +kernel
theorem d_RF_alarmFor_67 : decode prog_1_method_36_code 67 = .ok (.aload 4, 2) := by decide +kernel
theorem d_RF_alarmFor_69 : decode prog_1_method_36_code 69 = .ok (.aastore, 1) := by decide +kernel
theorem d_RF_alarmFor_70 : decode prog_1_method_36_code 70 = .ok (.aload_n 0, 1) := by decide +kernel
theorem d_RF_alarmFor_71 : decode prog_1_method_36_code 71 = .ok (.dup, 1) := by decide +kernel
theorem d_RF_alarmFor_72 : decode prog_1_method_36_code 72 = .ok (.getfield 289, 3) := by decide +kernel
theorem d_RF_alarmFor_75 : decode prog_1_method_36_code 75 = .ok (.iconst 1, 1) := by decide +kernel
theorem d_RF_alarmFor_76 : decode prog_1_method_36_code 76 = .ok (.iadd, 1) := by decide +kernel
theorem d_RF_alarmFor_77 : decode prog_1_method_36_code 77 = .ok (.putfield 289, 3) := by decide +kernel
theorem d_RF_alarmFor_80 : decode prog_1_method_36_code 80 = .ok (.aload 4, 2) := by decide +kernel
theorem d_RF_alarmFor_82 : decode prog_1_method_36_code 82 = .ok (.getfield 353, 3) := by decide +kernel
theorem d_RF_alarmFor_85 : decode prog_1_method_36_code 85 = .ok (.ireturn, 1) := by decide +kernel
theorem d_RF_latestAlarm_0 : decode prog_1_method_37_code 0 = .ok (.aconst_null, 1) := by decide +kernel
theorem d_RF_latestAlarm_1 : decode prog_1_method_37_code 1 = .ok (.astore_n 3, 1) := by decide +kernel
theorem d_RF_latestAlarm_2 : decode prog_1_method_37_code 2 = .ok (.aload_n 0, 1) := by decide +kernel
theorem d_RF_latestAlarm_3 : decode prog_1_method_37_code 3 = .ok (.getfield 36, 3) := by decide +kernel
theorem d_RF_latestAlarm_6 : decode prog_1_method_37_code 6 = .ok (.astore 4, 2) := by decide +kernel
theorem d_RF_latestAlarm_8 : decode prog_1_method_37_code 8 = .ok (.aload 4, 2) := by decide +kernel
theorem d_RF_latestAlarm_10 : decode prog_1_method_37_code 10 = .ok (.arraylength, 1) := by decide +kernel
theorem d_RF_latestAlarm_11 : decode prog_1_method_37_code 11 = .ok (.istore 5, 2) := by decide +kernel
theorem d_RF_latestAlarm_13 : decode prog_1_method_37_code 13 = .ok (.iconst 0, 1) := by decide +kernel
theorem d_RF_latestAlarm_14 : decode prog_1_method_37_code 14 = .ok (.istore 6, 2) := by decide +kernel
theorem d_RF_latestAlarm_16 : decode prog_1_method_37_code 16 = .ok (.iload 6, 2) := by decide +kernel
theorem d_RF_latestAlarm_18 : decode prog_1_method_37_code 18 = .ok (.iload 5, 2) := by decide +kernel
theorem d_RF_latestAlarm_20 : decode prog_1_method_37_code 20 = .ok (.if_icmp .ge 42, 3) := by decide +kernel
theorem d_RF_latestAlarm_23 : decode prog_1_method_37_code 23 = .ok (.aload 4, 2) := by decide +kernel
theorem d_RF_latestAlarm_25 : decode prog_1_method_37_code 25 = .ok (.iload 6, 2) := by decide +kernel
theorem d_RF_latestAlarm_27 : decode prog_1_method_37_code 27 = .ok (.aaload, 1) := by decide +kernel
theorem d_RF_latestAlarm_28 : decode prog_1_method_37_code 28 = .ok (.astore 7, 2) := by decide +kernel
theorem d_RF_latestAlarm_30 : decode prog_1_method_37_code 30 = .ok (.aload 7, 2) := by decide +kernel
theorem d_RF_latestAlarm_32 : decode prog_1_method_37_code 32 = .ok (.ifnull 24, 3) := by decide +kernel
theorem d_RF_latestAlarm_35 : decode prog_1_method_37_code 35 = .ok (.aload 7, 2) := by decide +kernel
theorem d_RF_latestAlarm_37 : decode prog_1_method_37_code 37 = .ok (.getfield 235, 3) := by decide +kernel
theorem d_RF_latestAlarm_40 : decode prog_1_method_37_code 40 = .ok (.aload_n 1, 1) := by decide +kernel
theorem d_RF_latestAlarm_41 : decode prog_1_method_37_code 41 = .ok (.if_acmp .ne 15, 3) := by decide +kernel
theorem d_RF_latestAlarm_44 : decode prog_1_method_37_code 44 = .ok (.aload 7, 2) := by decide +kernel
theorem d_RF_latestAlarm_46 : decode prog_1_method_37_code 46 = .ok (.getfield 239, 3) := by decide +kernel
theorem d_RF_latestAlarm_49 : decode prog_1_method_37_code 49 = .ok (.iload_n 2, 1) := by decide +kernel
theorem d_RF_latestAlarm_50 : decode prog_1_method_37_code 50 = .ok (.if_icmp .ne 6, 3) := by decide +kernel
theorem d_RF_latestAlarm_53 : decode prog_1_method_37_code 53 = .ok (.aload 7, 2) := by decide +kernel
theorem d_RF_latestAlarm_55 : decode prog_1_method_37_code 55 = .ok (.astore_n 3, 1) := by decide +kernel
theorem d_RF_latestAlarm_56 : decode prog_1_method_37_code 56 = .ok (.iinc 6 1, 3) := by decide +kernel
theorem d_RF_latestAlarm_59 : decode prog_1_method_37_code 59 = .ok (.goto (-43), 3) := by decide +kernel
theorem d_RF_latestAlarm_62 : decode prog_1_method_37_code 62 = .ok (.aload_n 3, 1) := by decide +kernel
theorem d_RF_latestAlarm_63 : decode prog_1_method_37_code 63 = .ok (.areturn, 1) := by decide +kernel
theorem d_Alarm_join_0 : decode prog_2_method_3_code 0 = .ok (.aload_n 0, 1) := by decide +kernel
theorem d_Alarm_join_1 : decode prog_2_method_3_code 1 = .ok (.aload_n 1, 1) := by decide +kernel
theorem d_Alarm_join_2 : decode prog_2_method_3_code 2 = .ok (.putfield 38, 3) := by decide +kernel
theorem d_Alarm_join_5 : decode prog_2_method_3_code 5 = .ok (.aload_n 0, 1) := by decide +kernel
theorem d_Alarm_join_6 : decode prog_2_method_3_code 6 = .ok (.dup, 1) := by decide +kernel
theorem d_Alarm_join_7 : decode prog_2_method_3_code 7 = .ok (.getfield 15, 3) := by decide +kernel
theorem d_Alarm_join_10 : decode prog_2_method_3_code 10 = .ok (.iconst 1, 1) := by decide +kernel
theorem d_Alarm_join_11 : decode prog_2_method_3_code 11 = .ok (.iadd, 1) := by decide +kernel
theorem d_Alarm_join_12 : decode prog_2_method_3_code 12 = .ok (.putfield 15, 3) := by decide +kernel
theorem d_Alarm_join_15 : decode prog_2_method_3_code 15 = .ok (.aload_n 0, 1) := by decide +kernel
theorem d_Alarm_join_16 : decode prog_2_method_3_code 16 = .ok (.iconst (-1), 1) := by decide +kernel
theorem d_Alarm_join_17 : decode prog_2_method_3_code 17 = .ok (.putfield 18, 3) := by decide +kernel
theorem d_Alarm_join_20 : decode prog_2_method_3_code 20 = .ok (.return_, 1) := by decide +kernel
theorem d_Alarm_init_0 : decode prog_2_method_1_code 0 = .ok (.aload_n 0, 1) := by decide +kernel
theorem d_Alarm_init_1 : decode prog_2_method_1_code 1 = .ok (.invokespecial 3, 3) := by decide +kernel
theorem d_Alarm_init_4 : decode prog_2_method_1_code 4 = .ok (.aload_n 0, 1) := by decide +kernel
theorem d_Alarm_init_5 : decode prog_2_method_1_code 5 = .ok (.iconst 0, 1) := by decide +kernel
theorem d_Alarm_init_6 : decode prog_2_method_1_code 6 = .ok (.putfield 9, 3) := by decide +kernel
theorem d_Alarm_init_9 : decode prog_2_method_1_code 9 = .ok (.aload_n 0, 1) := by decide +kernel
theorem d_Alarm_init_10 : decode prog_2_method_1_code 10 = .ok (.iconst 1, 1) := by decide +kernel
theorem d_Alarm_init_11 : decode prog_2_method_1_code 11 = .ok (.putfield 15, 3) := by decide +kernel
theorem d_Alarm_init_14 : decode prog_2_method_1_code 14 = .ok (.aload_n 0, 1) := by decide +kernel
theorem d_Alarm_init_15 : decode prog_2_method_1_code 15 = .ok (.iconst (-1), 1) := by decide +kernel
theorem d_Alarm_init_16 : decode prog_2_method_1_code 16 = .ok (.putfield 18, 3) := by decide +kernel
theorem d_Alarm_init_19 : decode prog_2_method_1_code 19 = .ok (.aload_n 0, 1) := by decide +kernel
theorem d_Alarm_init_20 : decode prog_2_method_1_code 20 = .ok (.iload_n 1, 1) := by decide +kernel
theorem d_Alarm_init_21 : decode prog_2_method_1_code 21 = .ok (.putfield 21, 3) := by decide +kernel
theorem d_Alarm_init_24 : decode prog_2_method_1_code 24 = .ok (.aload_n 0, 1) := by decide +kernel
theorem d_Alarm_init_25 : decode prog_2_method_1_code 25 = .ok (.aload_n 2, 1) := by decide +kernel
theorem d_Alarm_init_26 : decode prog_2_method_1_code 26 = .ok (.getfield 24, 3) := by decide +kernel
theorem d_Alarm_init_29 : decode prog_2_method_1_code 29 = .ok (.putfield 30, 3) := by decide +kernel
theorem d_Alarm_init_32 : decode prog_2_method_1_code 32 = .ok (.aload_n 0, 1) := by decide +kernel
theorem d_Alarm_init_33 : decode prog_2_method_1_code 33 = .ok (.aload_n 2, 1) := by decide +kernel
theorem d_Alarm_init_34 : decode prog_2_method_1_code 34 = .ok (.getfield 31, 3) := by decide +kernel
theorem d_Alarm_init_37 : decode prog_2_method_1_code 37 = .ok (.putfield 34, 3) := by decide +kernel
theorem d_Alarm_init_40 : decode prog_2_method_1_code 40 = .ok (.aload_n 0, 1) := by decide +kernel
theorem d_Alarm_init_41 : decode prog_2_method_1_code 41 = .ok (.iload_n 3, 1) := by decide +kernel
theorem d_Alarm_init_42 : decode prog_2_method_1_code 42 = .ok (.putfield 35, 3) := by decide +kernel
theorem d_Alarm_init_45 : decode prog_2_method_1_code 45 = .ok (.aload_n 0, 1) := by decide +kernel
theorem d_Alarm_init_46 : decode prog_2_method_1_code 46 = .ok (.aload_n 2, 1) := by decide +kernel
