/-! decode rows: printed by wip/gen/names.py -/
theorem d_RF_init_0 : decode prog_1_method_1_code 0 = .ok (.aload_n 0, 1) := by decide +kernel
theorem d_RF_init_1 : decode prog_1_method_1_code 1 = .ok (.invokespecial 1, 3) := by decide +kernel
theorem d_RF_init_4 : decode prog_1_method_1_code 4 = .ok (.aload_n 0, 1) := by decide +kernel
theorem d_RF_init_5 : decode prog_1_method_1_code 5 = .ok (.new 7, 3) := by decide +kernel
theorem d_RF_init_8 : decode prog_1_method_1_code 8 = .ok (.dup, 1) := by decide +kernel
theorem d_RF_init_9 : decode prog_1_method_1_code 9 = .ok (.invokespecial 9, 3) := by decide +kernel
theorem d_RF_init_12 : decode prog_1_method_1_code 12 = .ok (.putfield 10, 3) := by decide +kernel
theorem d_RF_init_15 : decode prog_1_method_1_code 15 = .ok (.aload_n 0, 1) := by decide +kernel
theorem d_RF_init_16 : decode prog_1_method_1_code 16 = .ok (.bipush 8, 2) := by decide +kernel
theorem d_RF_init_18 : decode prog_1_method_1_code 18 = .ok (.anewarray 16, 3) := by decide +kernel
theorem d_RF_init_21 : decode prog_1_method_1_code 21 = .ok (.putfield 18, 3) := by decide +kernel
theorem d_RF_init_24 : decode prog_1_method_1_code 24 = .ok (.aload_n 0, 1) := by decide +kernel
theorem d_RF_init_25 : decode prog_1_method_1_code 25 = .ok (.bipush 8, 2) := by decide +kernel
theorem d_RF_init_27 : decode prog_1_method_1_code 27 = .ok (.anewarray 22, 3) := by decide +kernel
theorem d_RF_init_30 : decode prog_1_method_1_code 30 = .ok (.putfield 24, 3) := by decide +kernel
theorem d_RF_init_33 : decode prog_1_method_1_code 33 = .ok (.aload_n 0, 1) := by decide +kernel
theorem d_RF_init_34 : decode prog_1_method_1_code 34 = .ok (.bipush 40, 2) := by decide +kernel
theorem d_RF_init_36 : decode prog_1_method_1_code 36 = .ok (.anewarray 28, 3) := by decide +kernel
theorem d_RF_init_39 : decode prog_1_method_1_code 39 = .ok (.putfield 30, 3) := by decide +kernel
theorem d_RF_init_42 : decode prog_1_method_1_code 42 = .ok (.aload_n 0, 1) := by decide +kernel
theorem d_RF_init_43 : decode prog_1_method_1_code 43 = .ok (.bipush 40, 2) := by decide +kernel
theorem d_RF_init_45 : decode prog_1_method_1_code 45 = .ok (.anewarray 34, 3) := by decide +kernel
theorem d_RF_init_48 : decode prog_1_method_1_code 48 = .ok (.putfield 36, 3) := by decide +kernel
theorem d_RF_init_51 : decode prog_1_method_1_code 51 = .ok (.aload_n 0, 1) := by decide +kernel
theorem d_RF_init_52 : decode prog_1_method_1_code 52 = .ok (.bipush 10, 2) := by decide +kernel
theorem d_RF_init_54 : decode prog_1_method_1_code 54 = .ok (.anewarray 40, 3) := by decide +kernel
theorem d_RF_init_57 : decode prog_1_method_1_code 57 = .ok (.putfield 42, 3) := by decide +kernel
theorem d_RF_init_60 : decode prog_1_method_1_code 60 = .ok (.iconst 0, 1) := by decide +kernel
theorem d_RF_init_61 : decode prog_1_method_1_code 61 = .ok (.istore_n 1, 1) := by decide +kernel
theorem d_RF_init_62 : decode prog_1_method_1_code 62 = .ok (.iload_n 1, 1) := by decide +kernel
theorem d_RF_init_63 : decode prog_1_method_1_code 63 = .ok (.bipush 8, 2) := by decide +kernel
theorem d_RF_init_65 : decode prog_1_method_1_code 65 = .ok (.if_icmp .ge 22, 3) := by decide +kernel
theorem d_RF_init_68 : decode prog_1_method_1_code 68 = .ok (.aload_n 0, 1) := by decide +kernel
theorem d_RF_init_69 : decode prog_1_method_1_code 69 = .ok (.getfield 18, 3) := by decide +kernel
theorem d_RF_init_72 : decode prog_1_method_1_code 72 = .ok (.iload_n 1, 1) := by decide +kernel
theorem d_RF_init_73 : decode prog_1_method_1_code 73 = .ok (.new 16, 3) := by decide +kernel
theorem d_RF_init_76 : decode prog_1_method_1_code 76 = .ok (.dup, 1) := by decide +kernel
theorem d_RF_init_77 : decode prog_1_method_1_code 77 = .ok (.invokespecial 46, 3) := by decide +kernel
theorem d_RF_init_80 : decode prog_1_method_1_code 80 = .ok (.aastore, 1) := by decide +kernel
theorem d_RF_init_81 : decode prog_1_method_1_code 81 = .ok (.iinc 1 1, 3) := by decide +kernel
theorem d_RF_init_84 : decode prog_1_method_1_code 84 = .ok (.goto (-22), 3) := by decide +kernel
theorem d_RF_init_87 : decode prog_1_method_1_code 87 = .ok (.return_, 1) := by decide +kernel
theorem d_Track_init_0 : decode prog_7_method_1_code 0 = .ok (.aload_n 0, 1) := by decide +kernel
theorem d_Track_init_1 : decode prog_7_method_1_code 1 = .ok (.invokespecial 3, 3) := by decide +kernel
theorem d_Track_init_4 : decode prog_7_method_1_code 4 = .ok (.aload_n 0, 1) := by decide +kernel
theorem d_Track_init_5 : decode prog_7_method_1_code 5 = .ok (.bipush 20, 2) := by decide +kernel
theorem d_Track_init_7 : decode prog_7_method_1_code 7 = .ok (.newarray .int, 2) := by decide +kernel
theorem d_Track_init_9 : decode prog_7_method_1_code 9 = .ok (.putfield 9, 3) := by decide +kernel
theorem d_Track_init_12 : decode prog_7_method_1_code 12 = .ok (.return_, 1) := by decide +kernel
theorem d_Rule_init_0 : decode prog_6_method_1_code 0 = .ok (.aload_n 0, 1) := by decide +kernel
theorem d_Rule_init_1 : decode prog_6_method_1_code 1 = .ok (.invokespecial 1, 3) := by decide +kernel
theorem d_Rule_init_4 : decode prog_6_method_1_code 4 = .ok (.aload_n 0, 1) := by decide +kernel
theorem d_Rule_init_5 : decode prog_6_method_1_code 5 = .ok (.iconst 1, 1) := by decide +kernel
theorem d_Rule_init_6 : decode prog_6_method_1_code 6 = .ok (.putfield 7, 3) := by decide +kernel
theorem d_Rule_init_9 : decode prog_6_method_1_code 9 = .ok (.aload_n 0, 1) := by decide +kernel
theorem d_Rule_init_10 : decode prog_6_method_1_code 10 = .ok (.iconst 0, 1) := by decide +kernel
theorem d_Rule_init_11 : decode prog_6_method_1_code 11 = .ok (.putfield 13, 3) := by decide +kernel
theorem d_Rule_init_14 : decode prog_6_method_1_code 14 = .ok (.aload_n 0, 1) := by decide +kernel
theorem d_Rule_init_15 : decode prog_6_method_1_code 15 = .ok (.iconst 3, 1) := by decide +kernel
theorem d_Rule_init_16 : decode prog_6_method_1_code 16 = .ok (.putfield 17, 3) := by decide +kernel
theorem d_Rule_init_19 : decode prog_6_method_1_code 19 = .ok (.return_, 1) := by decide +kernel
theorem d_RF_first_0 : decode prog_1_method_21_code 0 = .ok (.iconst (-1), 1) := by decide +kernel
theorem d_RF_first_1 : decode prog_1_method_21_code 1 = .ok (.istore_n 1, 1) := by decide +kernel
theorem d_RF_first_2 : decode prog_1_method_21_code 2 = .ok (.iconst 0, 1) := by decide +kernel
theorem d_RF_first_3 : decode prog_1_method_21_code 3 = .ok (.istore_n 2, 1) := by decide +kernel
theorem d_RF_first_4 : decode prog_1_method_21_code 4 = .ok (.iload_n 2, 1) := by decide +kernel
theorem d_RF_first_5 : decode prog_1_method_21_code 5 = .ok (.aload_n 0, 1) := by decide +kernel
theorem d_RF_first_6 : decode prog_1_method_21_code 6 = .ok (.getfield 36, 3) := by decide +kernel
theorem d_RF_first_9 : decode prog_1_method_21_code 9 = .ok (.arraylength, 1) := by decide +kernel
theorem d_RF_first_10 : decode prog_1_method_21_code 10 = .ok (.if_icmp .ge 59, 3) := by decide +kernel
theorem d_RF_first_13 : decode prog_1_method_21_code 13 = .ok (.aload_n 0, 1) := by decide +kernel
theorem d_RF_first_14 : decode prog_1_method_21_code 14 = .ok (.getfield 36, 3) := by decide +kernel
theorem d_RF_first_17 : decode prog_1_method_21_code 17 = .ok (.iload_n 2, 1) := by decide +kernel
theorem d_RF_first_18 : decode prog_1_method_21_code 18 = .ok (.aaload, 1) := by decide +kernel
theorem d_RF_first_19 : decode prog_1_method_21_code 19 = .ok (.astore_n 3, 1) := by decide +kernel
theorem d_RF_first_20 : decode prog_1_method_21_code 20 = .ok (.aload_n 3, 1) := by decide +kernel
theorem d_RF_first_21 : decode prog_1_method_21_code 21 = .ok (.ifnull 42, 3) := by decide +kernel
theorem d_RF_first_24 : decode prog_1_method_21_code 24 = .ok (.aload_n 3, 1) := by decide +kernel
theorem d_RF_first_25 : decode prog_1_method_21_code 25 = .ok (.invokevirtual 224, 3) := by decide +kernel
theorem d_RF_first_28 : decode prog_1_method_21_code 28 = .ok (.ifCond .ne 35, 3) := by decide +kernel
theorem d_RF_first_31 : decode prog_1_method_21_code 31 = .ok (.iload_n 1, 1) := by decide +kernel
theorem d_RF_first_32 : decode prog_1_method_21_code 32 = .ok (.ifCond .ge 7, 3) := by decide +kernel
theorem d_RF_first_35 : decode prog_1_method_21_code 35 = .ok (.aconst_null, 1) := by decide +kernel
theorem d_RF_first_36 : decode prog_1_method_21_code 36 = .ok (.goto 9, 3) := by decide +kernel
theorem d_RF_first_39 : decode prog_1_method_21_code 39 = .ok (.aload_n 0, 1) := by decide +kernel
theorem d_RF_first_40 : decode prog_1_method_21_code 40 = .ok (.getfield 36, 3) := by decide +kernel
theorem d_RF_first_43 : decode prog_1_method_21_code 43 = .ok (.iload_n 1, 1) := by decide +kernel
theorem d_RF_first_44 : decode prog_1_method_21_code 44 = .ok (.aaload, 1) := by decide +kernel
theorem d_RF_first_45 : decode prog_1_method_21_code 45 = .ok (.astore 4, 2) := by decide +kernel
theorem d_RF_first_47 : decode prog_1_method_21_code 47 = .ok (.aload 4, 2) := by decide +kernel
theorem d_RF_first_49 : decode prog_1_method_21_code 49 = .ok (.ifnull 12, 3) := by decide +kernel
theorem d_RF_first_52 : decode prog_1_method_21_code 52 = .ok (.aload_n 3, 1) := by decide +kernel
theorem d_RF_first_53 : decode prog_1_method_21_code 53 = .ok (.aload 4, 2) := by decide +kernel
theorem d_RF_first_55 : decode prog_1_method_21_code 55 = .ok (.invokevirtual 276, 3) := by decide +kernel
theorem d_RF_first_58 : decode prog_1_method_21_code 58 = .ok (.ifCond .eq 5, 3) := by decide +kernel
theorem d_RF_first_61 : decode prog_1_method_21_code 61 = .ok (.iload_n 2, 1) := by decide +kernel
theorem d_RF_first_62 : decode prog_1_method_21_code 62 = .ok (.istore_n 1, 1) := by decide +kernel
theorem d_RF_first_63 : decode prog_1_method_21_code 63 = .ok (.iinc 2 1, 3) := by decide +kernel
theorem d_RF_first_66 : decode prog_1_method_21_code 66 = .ok (.goto (-62), 3) := by decide +kernel
theorem d_RF_first_69 : decode prog_1_method_21_code 69 = .ok (.iload_n 1, 1) := by decide +kernel
theorem d_RF_first_70 : decode prog_1_method_21_code 70 = .ok (.ireturn, 1) := by decide +kernel
theorem d_Alarm_isAcknowledged_0 : decode prog_2_method_2_code 0 = .ok (.aload_n 0, 1) := by decide +kernel
theorem d_Alarm_isAcknowledged_1 : decode prog_2_method_2_code 1 = .ok (.getfield 18, 3) := by decide +kernel
theorem d_Alarm_isAcknowledged_4 : decode prog_2_method_2_code 4 = .ok (.iconst (-1), 1) := by decide +kernel
theorem d_Alarm_isAcknowledged_5 : decode prog_2_method_2_code 5 = .ok (.if_icmp .eq 7, 3) := by decide +kernel
theorem d_Alarm_isAcknowledged_8 : decode prog_2_method_2_code 8 = .ok (.iconst 1, 1) := by decide +kernel
theorem d_Alarm_isAcknowledged_9 : decode prog_2_method_2_code 9 = .ok (.goto 4, 3) := by decide +kernel
theorem d_Alarm_isAcknowledged_12 : decode prog_2_method_2_code 12 = .ok (.iconst 0, 1) := by decide +kernel
theorem d_Alarm_isAcknowledged_13 : decode prog_2_method_2_code 13 = .ok (.ireturn, 1) := by decide +kernel
theorem d_Alarm_comesBefore_0 : decode prog_2_method_7_code 0 = .ok (.aload_n 0, 1) := by decide +kernel
theorem d_Alarm_comesBefore_1 : decode prog_2_method_7_code 1 = .ok (.getfield 9, 3) := by decide +kernel
theorem d_Alarm_comesBefore_4 : decode prog_2_method_7_code 4 = .ok (.aload_n 1, 1) := by decide +kernel
theorem d_Alarm_comesBefore_5 : decode prog_2_method_7_code 5 = .ok (.getfield 9, 3) := by decide +kernel
theorem d_Alarm_comesBefore_8 : decode prog_2_method_7_code 8 = .ok (.if_icmp .eq 22, 3) := by decide +kernel
theorem d_Alarm_comesBefore_11 : decode prog_2_method_7_code 11 = .ok (.aload_n 0, 1) := by decide +kernel
theorem d_Alarm_comesBefore_12 : decode prog_2_method_7_code 12 = .ok (.getfield 9, 3) := by decide +kernel
theorem d_Alarm_comesBefore_15 : decode prog_2_method_7_code 15 = .ok (.aload_n 1, 1) := by decide +kernel
theorem d_Alarm_comesBefore_16 : decode prog_2_method_7_code 16 = .ok (.getfield 9, 3) := by decide +kernel
theorem d_Alarm_comesBefore_19 : decode prog_2_method_7_code 19 = .ok (.if_icmp .le 7, 3) := by decide +kernel
theorem d_Alarm_comesBefore_22 : decode prog_2_method_7_code 22 = .ok (.iconst 1, 1) := by decide +kernel
theorem d_Alarm_comesBefore_23 : decode prog_2_method_7_code 23 = .ok (.goto 23, 3) := by decide +kernel
theorem d_Alarm_comesBefore_26 : decode prog_2_method_7_code 26 = .ok (.iconst 0, 1) := by decide +kernel
theorem d_Alarm_comesBefore_27 : decode prog_2_method_7_code 27 = .ok (.goto 19, 3) := by decide +kernel
theorem d_Alarm_comesBefore_30 : decode prog_2_method_7_code 30 = .ok (.aload_n 0, 1) := by decide +kernel
theorem d_Alarm_comesBefore_31 : decode prog_2_method_7_code 31 = .ok (.getfield 35, 3) := by decide +kernel
theorem d_Alarm_comesBefore_34 : decode prog_2_method_7_code 34 = .ok (.aload_n 1, 1) := by decide +kernel
theorem d_Alarm_comesBefore_35 : decode prog_2_method_7_code 35 = .ok (.getfield 35, 3) := by decide +kernel
theorem d_Alarm_comesBefore_38 : decode prog_2_method_7_code 38 = .ok (.if_icmp .ge 7, 3) := by decide +kernel
theorem d_Alarm_comesBefore_41 : decode prog_2_method_7_code 41 = .ok (.iconst 1, 1) := by decide +kernel
theorem d_Alarm_comesBefore_42 : decode prog_2_method_7_code 42 = .ok (.goto 4, 3) := by decide +kernel
theorem d_Alarm_comesBefore_45 : decode prog_2_method_7_code 45 = .ok (.iconst 0, 1) := by decide +kernel
theorem d_Alarm_comesBefore_46 : decode prog_2_method_7_code 46 = .ok (.ireturn, 1) := by decide +kernel
theorem d_RF_count_0 : decode prog_1_method_22_code 0 = .ok (.iload_n 1, 1) := by decide +kernel
theorem d_RF_count_1 : decode prog_1_method_22_code 1 = .ok (.tableswitch 99 0 8 #[51, 59, 64, 69, 74, 79, 84, 89, 94], 51) := by decide +kernel
theorem d_RF_count_52 : decode prog_1_method_22_code 52 = .ok (.aload_n 0, 1) := by decide +kernel
theorem d_RF_count_53 : decode prog_1_method_22_code 53 = .ok (.getfield 10, 3) := by decide +kernel
theorem d_RF_count_56 : decode prog_1_method_22_code 56 = .ok (.invokevirtual 280, 3) := by decide +kernel
theorem d_RF_count_59 : decode prog_1_method_22_code 59 = .ok (.ireturn, 1) := by decide +kernel
theorem d_RF_count_60 : decode prog_1_method_22_code 60 = .ok (.aload_n 0, 1) := by decide +kernel
theorem d_RF_count_61 : decode prog_1_method_22_code 61 = .ok (.getfield 75, 3) := by decide +kernel
theorem d_RF_count_64 : decode prog_1_method_22_code 64 = .ok (.ireturn, 1) := by decide +kernel
theorem d_RF_count_65 : decode prog_1_method_22_code 65 = .ok (.aload_n 0, 1) := by decide +kernel
theorem d_RF_count_66 : decode prog_1_method_22_code 66 = .ok (.getfield 283, 3) := by decide +kernel
theorem d_RF_count_69 : decode prog_1_method_22_code 69 = .ok (.ireturn, 1) := by decide +kernel
theorem d_RF_count_70 : decode prog_1_method_22_code 70 = .ok (.aload_n 0, 1) := by decide +kernel
theorem d_RF_count_71 : decode prog_1_method_22_code 71 = .ok (.invokevirtual 286, 3) := by decide +kernel
theorem d_RF_count_74 : decode prog_1_method_22_code 74 = .ok (.ireturn, 1) := by decide +kernel
theorem d_RF_count_75 : decode prog_1_method_22_code 75 = .ok (.aload_n 0, 1) := by decide +kernel
theorem d_RF_count_76 : decode prog_1_method_22_code 76 = .ok (.getfield 289, 3) := by decide +kernel
theorem d_RF_count_79 : decode prog_1_method_22_code 79 = .ok (.ireturn, 1) := by decide +kernel
theorem d_RF_count_80 : decode prog_1_method_22_code 80 = .ok (.aload_n 0, 1) := by decide +kernel
theorem d_RF_count_81 : decode prog_1_method_22_code 81 = .ok (.invokevirtual 292, 3) := by decide +kernel
theorem d_RF_count_84 : decode prog_1_method_22_code 84 = .ok (.ireturn, 1) := by decide +kernel
theorem d_RF_count_85 : decode prog_1_method_22_code 85 = .ok (.aload_n 0, 1) := by decide +kernel
theorem d_RF_count_86 : decode prog_1_method_22_code 86 = .ok (.getfield 158, 3) := by decide +kernel
theorem d_RF_count_89 : decode prog_1_method_22_code 89 = .ok (.ireturn, 1) := by decide +kernel
theorem d_RF_count_90 : decode prog_1_method_22_code 90 = .ok (.aload_n 0, 1) := by decide +kernel
theorem d_RF_count_91 : decode prog_1_method_22_code 91 = .ok (.invokevirtual 295, 3) := by decide +kernel
theorem d_RF_count_94 : decode prog_1_method_22_code 94 = .ok (.ireturn, 1) := by decide +kernel
theorem d_RF_count_95 : decode prog_1_method_22_code 95 = .ok (.aload_n 0, 1) := by decide +kernel
theorem d_RF_count_96 : decode prog_1_method_22_code 96 = .ok (.getfield 197, 3) := by decide +kernel
theorem d_RF_count_99 : decode prog_1_method_22_code 99 = .ok (.ireturn, 1) := by decide +kernel
theorem d_RF_count_100 : decode prog_1_method_22_code 100 = .ok (.iconst (-1), 1) := by decide +kernel
theorem d_RF_count_101 : decode prog_1_method_22_code 101 = .ok (.ireturn, 1) := by decide +kernel
theorem d_Track_size_0 : decode prog_7_method_2_code 0 = .ok (.aload_n 0, 1) := by decide +kernel
theorem d_Track_size_1 : decode prog_7_method_2_code 1 = .ok (.getfield 15, 3) := by decide +kernel
theorem d_Track_size_4 : decode prog_7_method_2_code 4 = .ok (.ireturn, 1) := by decide +kernel
theorem d_RF_openFaultCount_0 : decode prog_1_method_44_code 0 = .ok (.iconst 0, 1) := by decide +kernel
theorem d_RF_openFaultCount_1 : decode prog_1_method_44_code 1 = .ok (.istore_n 1, 1) := by decide +kernel
theorem d_RF_openFaultCount_2 : decode prog_1_method_44_code 2 = .ok (.aload_n 0, 1) := by decide +kernel
theorem d_RF_openFaultCount_3 : decode prog_1_method_44_code 3 = .ok (.getfield 30, 3) := by decide +kernel
theorem d_RF_openFaultCount_6 : decode prog_1_method_44_code 6 = .ok (.astore_n 2, 1) := by decide +kernel
theorem d_RF_openFaultCount_7 : decode prog_1_method_44_code 7 = .ok (.aload_n 2, 1) := by decide +kernel
theorem d_RF_openFaultCount_8 : decode prog_1_method_44_code 8 = .ok (.arraylength, 1) := by decide +kernel
theorem d_RF_openFaultCount_9 : decode prog_1_method_44_code 9 = .ok (.istore_n 3, 1) := by decide +kernel
theorem d_RF_openFaultCount_10 : decode prog_1_method_44_code 10 = .ok (.iconst 0, 1) := by decide +kernel
theorem d_RF_openFaultCount_11 : decode prog_1_method_44_code 11 = .ok (.istore 4, 2) := by decide +kernel
theorem d_RF_openFaultCount_13 : decode prog_1_method_44_code 13 = .ok (.iload 4, 2) := by decide +kernel
theorem d_RF_openFaultCount_15 : decode prog_1_method_44_code 15 = .ok (.iload_n 3, 1) := by decide +kernel
theorem d_RF_openFaultCount_16 : decode prog_1_method_44_code 16 = .ok (.if_icmp .ge 31, 3) := by decide +kernel
theorem d_RF_openFaultCount_19 : decode prog_1_method_44_code 19 = .ok (.aload_n 2, 1) := by decide +kernel
theorem d_RF_openFaultCount_20 : decode prog_1_method_44_code 20 = .ok (.iload 4, 2) := by decide +kernel
theorem d_RF_openFaultCount_22 : decode prog_1_method_44_code 22 = .ok (.aaload, 1) := by decide +kernel
theorem d_RF_openFaultCount_23 : decode prog_1_method_44_code 23 = .ok (.astore 5, 2) := by decide +kernel
theorem d_RF_openFaultCount_25 : decode prog_1_method_44_code 25 = .ok (.aload 5, 2) := by decide +kernel
theorem d_RF_openFaultCount_27 : decode prog_1_method_44_code 27 = .ok (.ifnull 14, 3) := by decide +kernel
theorem d_RF_openFaultCount_30 : decode prog_1_method_44_code 30 = .ok (.aload 5, 2) := by decide +kernel
theorem d_RF_openFaultCount_32 : decode prog_1_method_44_code 32 = .ok (.invokevirtual 147, 3) := by decide +kernel
theorem d_RF_openFaultCount_35 : decode prog_1_method_44_code 35 = .ok (.ifCond .eq 6, 3) := by decide +kernel
theorem d_RF_openFaultCount_38 : decode prog_1_method_44_code 38 = .ok (.iinc 1 1, 3) := by decide +kernel
theorem d_RF_openFaultCount_41 : decode prog_1_method_44_code 41 = .ok (.iinc 4 1, 3) := by decide +kernel
theorem d_RF_openFaultCount_44 : decode prog_1_method_44_code 44 = .ok (.goto (-31), 3) := by decide +kernel
theorem d_RF_openFaultCount_47 : decode prog_1_method_44_code 47 = .ok (.iload_n 1, 1) := by decide +kernel
theorem d_RF_openFaultCount_48 : decode prog_1_method_44_code 48 = .ok (.ireturn, 1) := by decide +kernel
theorem d_Fault_isOpen_0 : decode prog_3_method_2_code 0 = .ok (.aload_n 0, 1) := by decide +kernel
theorem d_Fault_isOpen_1 : decode prog_3_method_2_code 1 = .ok (.getfield 18, 3) := by decide +kernel
theorem d_Fault_isOpen_4 : decode prog_3_method_2_code 4 = .ok (.iconst (-1), 1) := by decide +kernel
theorem d_Fault_isOpen_5 : decode prog_3_method_2_code 5 = .ok (.if_icmp .ne 7, 3) := by decide +kernel
theorem d_Fault_isOpen_8 : decode prog_3_method_2_code 8 = .ok (.iconst 1, 1) := by decide +kernel
theorem d_Fault_isOpen_9 : decode prog_3_method_2_code 9 = .ok (.goto 4, 3) := by decide +kernel
theorem d_Fault_isOpen_12 : decode prog_3_method_2_code 12 = .ok (.iconst 0, 1) := by decide +kernel
theorem d_Fault_isOpen_13 : decode prog_3_method_2_code 13 = .ok (.ireturn, 1) := by decide +kernel
theorem d_RF_unheardAlarmCount_0 : decode prog_1_method_45_code 0 = .ok (.iconst 0, 1) := by decide +kernel
theorem d_RF_unheardAlarmCount_1 : decode prog_1_method_45_code 1 = .ok (.istore_n 1, 1) := by decide +kernel
theorem d_RF_unheardAlarmCount_2 : decode prog_1_method_45_code 2 = .ok (.aload_n 0, 1) := by decide +kernel
theorem d_RF_unheardAlarmCount_3 : decode prog_1_method_45_code 3 = .ok (.getfield 36, 3) := by decide +kernel
theorem d_RF_unheardAlarmCount_6 : decode prog_1_method_45_code 6 = .ok (.astore_n 2, 1) := by decide +kernel
theorem d_RF_unheardAlarmCount_7 : decode prog_1_method_45_code 7 = .ok (.aload_n 2, 1) := by decide +kernel
theorem d_RF_unheardAlarmCount_8 : decode prog_1_method_45_code 8 = .ok (.arraylength, 1) := by decide +kernel
theorem d_RF_unheardAlarmCount_9 : decode prog_1_method_45_code 9 = .ok (.istore_n 3, 1) := by decide +kernel
theorem d_RF_unheardAlarmCount_10 : decode prog_1_method_45_code 10 = .ok (.iconst 0, 1) := by decide +kernel
theorem d_RF_unheardAlarmCount_11 : decode prog_1_method_45_code 11 = .ok (.istore 4, 2) := by decide +kernel
theorem d_RF_unheardAlarmCount_13 : decode prog_1_method_45_code 13 = .ok (.iload 4, 2) := by decide +kernel
theorem d_RF_unheardAlarmCount_15 : decode prog_1_method_45_code 15 = .ok (.iload_n 3, 1) := by decide +kernel
theorem d_RF_unheardAlarmCount_16 : decode prog_1_method_45_code 16 = .ok (.if_icmp .ge 31, 3) := by decide +kernel
theorem d_RF_unheardAlarmCount_19 : decode prog_1_method_45_code 19 = .ok (.aload_n 2, 1) := by decide +kernel
theorem d_RF_unheardAlarmCount_20 : decode prog_1_method_45_code 20 = .ok (.iload 4, 2) := by decide +kernel
theorem d_RF_unheardAlarmCount_22 : decode prog_1_method_45_code 22 = .ok (.aaload, 1) := by decide +kernel
theorem d_RF_unheardAlarmCount_23 : decode prog_1_method_45_code 23 = .ok (.astore 5, 2) := by decide +kernel
theorem d_RF_unheardAlarmCount_25 : decode prog_1_method_45_code 25 = .ok (.aload 5, 2) := by decide +kernel
theorem d_RF_unheardAlarmCount_27 : decode prog_1_method_45_code 27 = .ok (.ifnull 14, 3) := by decide +kernel
theorem d_RF_unheardAlarmCount_30 : decode prog_1_method_45_code 30 = .ok (.aload 5, 2) := by decide +kernel
theorem d_RF_unheardAlarmCount_32 : decode prog_1_method_45_code 32 = .ok (.invokevirtual 224, 3) := by decide +kernel
theorem d_RF_unheardAlarmCount_35 : decode prog_1_method_45_code 35 = .ok (.ifCond .ne 6, 3) := by decide +kernel
theorem d_RF_unheardAlarmCount_38 : decode prog_1_method_45_code 38 = .ok (.iinc 1 1, 3) := by decide +kernel
theorem d_RF_unheardAlarmCount_41 : decode prog_1_method_45_code 41 = .ok (.iinc 4 1, 3) := by decide +kernel
theorem d_RF_unheardAlarmCount_44 : decode prog_1_method_45_code 44 = .ok (.goto (-31), 3) := by decide +kernel
theorem d_RF_unheardAlarmCount_47 : decode prog_1_method_45_code 47 = .ok (.iload_n 1, 1) := by decide +kernel
theorem d_RF_unheardAlarmCount_48 : decode prog_1_method_45_code 48 = .ok (.ireturn, 1) := by decide +kernel
theorem d_RF_openSeconds_0 : decode prog_1_method_46_code 0 = .ok (.iconst 0, 1) := by decide +kernel
theorem d_RF_openSeconds_1 : decode prog_1_method_46_code 1 = .ok (.istore_n 1, 1) := by decide +kernel
theorem d_RF_openSeconds_2 : decode prog_1_method_46_code 2 = .ok (.aload_n 0, 1) := by decide +kernel
theorem d_RF_openSeconds_3 : decode prog_1_method_46_code 3 = .ok (.getfield 30, 3) := by decide +kernel
theorem d_RF_openSeconds_6 : decode prog_1_method_46_code 6 = .ok (.astore_n 2, 1) := by decide +kernel
theorem d_RF_openSeconds_7 : decode prog_1_method_46_code 7 = .ok (.aload_n 2, 1) := by decide +kernel
theorem d_RF_openSeconds_8 : decode prog_1_method_46_code 8 = .ok (.arraylength, 1) := by decide +kernel
theorem d_RF_openSeconds_9 : decode prog_1_method_46_code 9 = .ok (.istore_n 3, 1) := by decide +kernel
theorem d_RF_openSeconds_10 : decode prog_1_method_46_code 10 = .ok (.iconst 0, 1) := by decide +kernel
theorem d_RF_openSeconds_11 : decode prog_1_method_46_code 11 = .ok (.istore 4, 2) := by decide +kernel
theorem d_RF_openSeconds_13 : decode prog_1_method_46_code 13 = .ok (.iload 4, 2) := by decide +kernel
theorem d_RF_openSeconds_15 : decode prog_1_method_46_code 15 = .ok (.iload_n 3, 1) := by decide +kernel
theorem d_RF_openSeconds_16 : decode prog_1_method_46_code 16 = .ok (.if_icmp .ge 32, 3) := by decide +kernel
theorem d_RF_openSeconds_19 : decode prog_1_method_46_code 19 = .ok (.aload_n 2, 1) := by decide +kernel
theorem d_RF_openSeconds_20 : decode prog_1_method_46_code 20 = .ok (.iload 4, 2) := by decide +kernel
theorem d_RF_openSeconds_22 : decode prog_1_method_46_code 22 = .ok (.aaload, 1) := by decide +kernel
theorem d_RF_openSeconds_23 : decode prog_1_method_46_code 23 = .ok (.astore 5, 2) := by decide +kernel
theorem d_RF_openSeconds_25 : decode prog_1_method_46_code 25 = .ok (.aload 5, 2) := by decide +kernel
theorem d_RF_openSeconds_27 : decode prog_1_method_46_code 27 = .ok (.ifnull 15, 3) := by decide +kernel
theorem d_RF_openSeconds_30 : decode prog_1_method_46_code 30 = .ok (.iload_n 1, 1) := by decide +kernel
theorem d_RF_openSeconds_31 : decode prog_1_method_46_code 31 = .ok (.aload 5, 2) := by decide +kernel
theorem d_RF_openSeconds_33 : decode prog_1_method_46_code 33 = .ok (.aload_n 0, 1) := by decide +kernel
theorem d_RF_openSeconds_34 : decode prog_1_method_46_code 34 = .ok (.getfield 158, 3) := by decide +kernel
theorem d_RF_openSeconds_37 : decode prog_1_method_46_code 37 = .ok (.invokevirtual 384, 3) := by decide +kernel
theorem d_RF_openSeconds_40 : decode prog_1_method_46_code 40 = .ok (.iadd, 1) := by decide +kernel
theorem d_RF_openSeconds_41 : decode prog_1_method_46_code 41 = .ok (.istore_n 1, 1) := by decide +kernel
theorem d_RF_openSeconds_42 : decode prog_1_method_46_code 42 = .ok (.iinc 4 1, 3) := by decide +kernel
theorem d_RF_openSeconds_45 : decode prog_1_method_46_code 45 = .ok (.goto (-32), 3) := by decide +kernel
theorem d_RF_openSeconds_48 : decode prog_1_method_46_code 48 = .ok (.iload_n 1, 1) := by decide +kernel
theorem d_RF_openSeconds_49 : decode prog_1_method_46_code 49 = .ok (.ireturn, 1) := by decide +kernel
theorem d_Fault_openSecondsUntil_0 : decode prog_3_method_4_code 0 = .ok (.aload_n 0, 1) := by decide +kernel
theorem d_Fault_openSecondsUntil_1 : decode prog_3_method_4_code 1 = .ok (.invokevirtual 59, 3) := by decide +kernel
theorem d_Fault_openSecondsUntil_4 : decode prog_3_method_4_code 4 = .ok (.ifCond .eq 7, 3) := by decide +kernel
theorem d_Fault_openSecondsUntil_7 : decode prog_3_method_4_code 7 = .ok (.iload_n 1, 1) := by decide +kernel
theorem d_Fault_openSecondsUntil_8 : decode prog_3_method_4_code 8 = .ok (.goto 7, 3) := by decide +kernel
theorem d_Fault_openSecondsUntil_11 : decode prog_3_method_4_code 11 = .ok (.aload_n 0, 1) := by decide +kernel
theorem d_Fault_openSecondsUntil_12 : decode prog_3_method_4_code 12 = .ok (.getfield 18, 3) := by decide +kernel
theorem d_Fault_openSecondsUntil_15 : decode prog_3_method_4_code 15 = .ok (.aload_n 0, 1) := by decide +kernel
theorem d_Fault_openSecondsUntil_16 : decode prog_3_method_4_code 16 = .ok (.getfield 31, 3) := by decide +kernel
theorem d_Fault_openSecondsUntil_19 : decode prog_3_method_4_code 19 = .ok (.isub, 1) := by decide +kernel
theorem d_Fault_openSecondsUntil_20 : decode prog_3_method_4_code 20 = .ok (.ireturn, 1) := by decide +kernel
theorem d_Law_piece_0 : decode method_3_code 0 = .ok (.aload_n 1, 1) := by decide +kernel
theorem d_Law_piece_1 : decode method_3_code 1 = .ok (.iconst 0, 1) := by decide +kernel
theorem d_Law_piece_2 : decode method_3_code 2 = .ok (.aload_n 0, 1) := by decide +kernel
theorem d_Law_piece_3 : decode method_3_code 3 = .ok (.invokevirtual 7, 3) := by decide +kernel
theorem d_Law_piece_6 : decode method_3_code 6 = .ok (.i2l, 1) := by decide +kernel
theorem d_Law_piece_7 : decode method_3_code 7 = .ok (.lastore, 1) := by decide +kernel
theorem d_Law_piece_8 : decode method_3_code 8 = .ok (.goto 6, 3) := by decide +kernel
theorem d_Law_piece_11 : decode method_3_code 11 = .ok (.astore_n 2, 1) := by decide +kernel
theorem d_Law_piece_12 : decode method_3_code 12 = .ok (.iconst 1, 1) := by decide +kernel
theorem d_Law_piece_13 : decode method_3_code 13 = .ok (.ireturn, 1) := by decide +kernel
theorem d_Law_piece_14 : decode method_3_code 14 = .ok (.iconst 0, 1) := by decide +kernel
theorem d_Law_piece_15 : decode method_3_code 15 = .ok (.ireturn, 1) := by decide +kernel
theorem d_RF_piece_0 : decode prog_1_method_2_code 0 = .ok (.aload_n 0, 1) := by decide +kernel
theorem d_RF_piece_1 : decode prog_1_method_2_code 1 = .ok (.getfield 10, 3) := by decide +kernel
theorem d_RF_piece_4 : decode prog_1_method_2_code 4 = .ok (.invokevirtual 47, 3) := by decide +kernel
theorem d_RF_piece_7 : decode prog_1_method_2_code 7 = .ok (.ifCond .eq 13, 3) := by decide +kernel
theorem d_RF_piece_10 : decode prog_1_method_2_code 10 = .ok (.new 51, 3) := by decide +kernel
theorem d_RF_piece_13 : decode prog_1_method_2_code 13 = .ok (.dup, 1) := by decide +kernel
theorem d_RF_piece_14 : decode prog_1_method_2_code 14 = .ok (.ldc 53, 2) := by decide +kernel
theorem d_RF_piece_16 : decode prog_1_method_2_code 16 = .ok (.invokespecial 55, 3) := by decide +kernel
theorem d_RF_piece_19 : decode prog_1_method_2_code 19 = .ok (.athrow, 1) := by decide +kernel
theorem d_RF_piece_20 : decode prog_1_method_2_code 20 = .ok (.aload_n 0, 1) := by decide +kernel
theorem d_RF_piece_21 : decode prog_1_method_2_code 21 = .ok (.getfield 10, 3) := by decide +kernel
theorem d_RF_piece_24 : decode prog_1_method_2_code 24 = .ok (.invokevirtual 58, 3) := by decide +kernel
theorem d_RF_piece_27 : decode prog_1_method_2_code 27 = .ok (.ireturn, 1) := by decide +kernel
theorem d_Track_isFull_0 : decode prog_7_method_3_code 0 = .ok (.aload_n 0, 1) := by decide +kernel
theorem d_Track_isFull_1 : decode prog_7_method_3_code 1 = .ok (.getfield 15, 3) := by decide +kernel
theorem d_Track_isFull_4 : decode prog_7_method_3_code 4 = .ok (.aload_n 0, 1) := by decide +kernel
theorem d_Track_isFull_5 : decode prog_7_method_3_code 5 = .ok (.getfield 9, 3) := by decide +kernel
theorem d_Track_isFull_8 : decode prog_7_method_3_code 8 = .ok (.arraylength, 1) := by decide +kernel
theorem d_Track_isFull_9 : decode prog_7_method_3_code 9 = .ok (.if_icmp .lt 7, 3) := by decide +kernel
theorem d_Track_isFull_12 : decode prog_7_method_3_code 12 = .ok (.iconst 1, 1) := by decide +kernel
theorem d_Track_isFull_13 : decode prog_7_method_3_code 13 = .ok (.goto 4, 3) := by decide +kernel
theorem d_Track_isFull_16 : decode prog_7_method_3_code 16 = .ok (.iconst 0, 1) := by decide +kernel
theorem d_Track_isFull_17 : decode prog_7_method_3_code 17 = .ok (.ireturn, 1) := by decide +kernel
theorem d_Track_add_0 : decode prog_7_method_5_code 0 = .ok (.aload_n 0, 1) := by decide +kernel
theorem d_Track_add_1 : decode prog_7_method_5_code 1 = .ok (.getfield 15, 3) := by decide +kernel
theorem d_Track_add_4 : decode prog_7_method_5_code 4 = .ok (.istore_n 1, 1) := by decide +kernel
theorem d_Track_add_5 : decode prog_7_method_5_code 5 = .ok (.aload_n 0, 1) := by decide +kernel
theorem d_Track_add_6 : decode prog_7_method_5_code 6 = .ok (.dup, 1) := by decide +kernel
theorem d_Track_add_7 : decode prog_7_method_5_code 7 = .ok (.getfield 15, 3) := by decide +kernel
theorem d_Track_add_10 : decode prog_7_method_5_code 10 = .ok (.iconst 1, 1) := by decide +kernel
theorem d_Track_add_11 : decode prog_7_method_5_code 11 = .ok (.iadd, 1) := by decide +kernel
theorem d_Track_add_12 : decode prog_7_method_5_code 12 = .ok (.putfield 15, 3) := by decide +kernel
theorem d_Track_add_15 : decode prog_7_method_5_code 15 = .ok (.iload_n 1, 1) := by decide +kernel
theorem d_Track_add_16 : decode prog_7_method_5_code 16 = .ok (.ireturn, 1) := by decide +kernel
theorem d_Law_link_0 : decode method_4_code 0 = .ok (.aload_n 0, 1) := by decide +kernel
theorem d_Law_link_1 : decode method_4_code 1 = .ok (.iload_n 1, 1) := by decide +kernel
theorem d_Law_link_2 : decode method_4_code 2 = .ok (.iload_n 2, 1) := by decide +kernel
theorem d_Law_link_3 : decode method_4_code 3 = .ok (.invokevirtual 15, 3) := by decide +kernel
theorem d_Law_link_6 : decode method_4_code 6 = .ok (.goto 9, 3) := by decide +kernel
theorem d_Law_link_9 : decode method_4_code 9 = .ok (.astore_n 3, 1) := by decide +kernel
theorem d_Law_link_10 : decode method_4_code 10 = .ok (.iconst 1, 1) := by decide +kernel
theorem d_Law_link_11 : decode method_4_code 11 = .ok (.ireturn, 1) := by decide +kernel
theorem d_Law_link_12 : decode method_4_code 12 = .ok (.astore_n 3, 1) := by decide +kernel
theorem d_Law_link_13 : decode method_4_code 13 = .ok (.iconst 2, 1) := by decide +kernel
theorem d_Law_link_14 : decode method_4_code 14 = .ok (.ireturn, 1) := by decide +kernel
theorem d_Law_link_15 : decode method_4_code 15 = .ok (.iconst 0, 1) := by decide +kernel
theorem d_Law_link_16 : decode method_4_code 16 = .ok (.ireturn, 1) := by decide +kernel
theorem d_RF_link_0 : decode prog_1_method_3_code 0 = .ok (.aload_n 0, 1) := by decide +kernel
theorem d_RF_link_1 : decode prog_1_method_3_code 1 = .ok (.iload_n 1, 1) := by decide +kernel
theorem d_RF_link_2 : decode prog_1_method_3_code 2 = .ok (.invokevirtual 62, 3) := by decide +kernel
theorem d_RF_link_5 : decode prog_1_method_3_code 5 = .ok (.aload_n 0, 1) := by decide +kernel
theorem d_RF_link_6 : decode prog_1_method_3_code 6 = .ok (.iload_n 2, 1) := by decide +kernel
theorem d_RF_link_7 : decode prog_1_method_3_code 7 = .ok (.invokevirtual 62, 3) := by decide +kernel
theorem d_RF_link_10 : decode prog_1_method_3_code 10 = .ok (.iload_n 1, 1) := by decide +kernel
theorem d_RF_link_11 : decode prog_1_method_3_code 11 = .ok (.iload_n 2, 1) := by decide +kernel
theorem d_RF_link_12 : decode prog_1_method_3_code 12 = .ok (.if_icmp .ne 13, 3) := by decide +kernel
theorem d_RF_link_15 : decode prog_1_method_3_code 15 = .ok (.new 66, 3) := by decide +kernel
theorem d_RF_link_18 : decode prog_1_method_3_code 18 = .ok (.dup, 1) := by decide +kernel
theorem d_RF_link_19 : decode prog_1_method_3_code 19 = .ok (.ldc 68, 2) := by decide +kernel
theorem d_RF_link_21 : decode prog_1_method_3_code 21 = .ok (.invokespecial 70, 3) := by decide +kernel
theorem d_RF_link_24 : decode prog_1_method_3_code 24 = .ok (.athrow, 1) := by decide +kernel
theorem d_RF_link_25 : decode prog_1_method_3_code 25 = .ok (.aload_n 0, 1) := by decide +kernel
theorem d_RF_link_26 : decode prog_1_method_3_code 26 = .ok (.getfield 10, 3) := by decide +kernel
theorem d_RF_link_29 : decode prog_1_method_3_code 29 = .ok (.iload_n 1, 1) := by decide +kernel
theorem d_RF_link_30 : decode prog_1_method_3_code 30 = .ok (.iload_n 2, 1) := by decide +kernel
theorem d_RF_link_31 : decode prog_1_method_3_code 31 = .ok (.invokevirtual 71, 3) := by decide +kernel
theorem d_RF_link_34 : decode prog_1_method_3_code 34 = .ok (.return_, 1) := by decide +kernel
theorem d_RF_needPiece_0 : decode prog_1_method_23_code 0 = .ok (.aload_n 0, 1) := by decide +kernel
theorem d_RF_needPiece_1 : decode prog_1_method_23_code 1 = .ok (.getfield 10, 3) := by decide +kernel
theorem d_RF_needPiece_4 : decode prog_1_method_23_code 4 = .ok (.iload_n 1, 1) := by decide +kernel
theorem d_RF_needPiece_5 : decode prog_1_method_23_code 5 = .ok (.invokevirtual 298, 3) := by decide +kernel
theorem d_RF_needPiece_8 : decode prog_1_method_23_code 8 = .ok (.ifCond .ne 14, 3) := by decide +kernel
theorem d_RF_needPiece_11 : decode prog_1_method_23_code 11 = .ok (.new 302, 3) := by decide +kernel
theorem d_RF_needPiece_14 : decode prog_1_method_23_code 14 = .ok (.dup, 1) := by decide +kernel
theorem d_RF_needPiece_15 : decode prog_1_method_23_code 15 = .ok (.ldc_w 304, 3) := by decide +kernel
theorem d_RF_needPiece_18 : decode prog_1_method_23_code 18 = .ok (.invokespecial 306, 3) := by decide +kernel
theorem d_RF_needPiece_21 : decode prog_1_method_23_code 21 = .ok (.athrow, 1) := by decide +kernel
theorem d_RF_needPiece_22 : decode prog_1_method_23_code 22 = .ok (.return_, 1) := by decide +kernel
theorem d_Track_has_0 : decode prog_7_method_4_code 0 = .ok (.iload_n 1, 1) := by decide +kernel
theorem d_Track_has_1 : decode prog_7_method_4_code 1 = .ok (.ifCond .lt 15, 3) := by decide +kernel
theorem d_Track_has_4 : decode prog_7_method_4_code 4 = .ok (.iload_n 1, 1) := by decide +kernel
theorem d_Track_has_5 : decode prog_7_method_4_code 5 = .ok (.aload_n 0, 1) := by decide +kernel
theorem d_Track_has_6 : decode prog_7_method_4_code 6 = .ok (.getfield 15, 3) := by decide +kernel
theorem d_Track_has_9 : decode prog_7_method_4_code 9 = .ok (.if_icmp .ge 7, 3) := by decide +kernel
theorem d_Track_has_12 : decode prog_7_method_4_code 12 = .ok (.iconst 1, 1) := by decide +kernel
theorem d_Track_has_13 : decode prog_7_method_4_code 13 = .ok (.goto 4, 3) := by decide +kernel
theorem d_Track_has_16 : decode prog_7_method_4_code 16 = .ok (.iconst 0, 1) := by decide +kernel
theorem d_Track_has_17 : decode prog_7_method_4_code 17 = .ok (.ireturn, 1) := by decide +kernel
theorem d_Track_connect_0 : decode prog_7_method_6_code 0 = .ok (.aload_n 0, 1) := by decide +kernel
theorem d_Track_connect_1 : decode prog_7_method_6_code 1 = .ok (.getfield 9, 3) := by decide +kernel
theorem d_Track_connect_4 : decode prog_7_method_6_code 4 = .ok (.iload_n 1, 1) := by decide +kernel
theorem d_Track_connect_5 : decode prog_7_method_6_code 5 = .ok (.dup2, 1) := by decide +kernel
theorem d_Track_connect_6 : decode prog_7_method_6_code 6 = .ok (.iaload, 1) := by decide +kernel
theorem d_Track_connect_7 : decode prog_7_method_6_code 7 = .ok (.iconst 1, 1) := by decide +kernel
theorem d_Track_connect_8 : decode prog_7_method_6_code 8 = .ok (.iload_n 2, 1) := by decide +kernel
theorem d_Track_connect_9 : decode prog_7_method_6_code 9 = .ok (.ishl, 1) := by decide +kernel
theorem d_Track_connect_10 : decode prog_7_method_6_code 10 = .ok (.ior, 1) := by decide +kernel
theorem d_Track_connect_11 : decode prog_7_method_6_code 11 = .ok (.iastore, 1) := by decide +kernel
theorem d_Track_connect_12 : decode prog_7_method_6_code 12 = .ok (.aload_n 0, 1) := by decide +kernel
theorem d_Track_connect_13 : decode prog_7_method_6_code 13 = .ok (.getfield 9, 3) := by decide +kernel
theorem d_Track_connect_16 : decode prog_7_method_6_code 16 = .ok (.iload_n 2, 1) := by decide +kernel
theorem d_Track_connect_17 : decode prog_7_method_6_code 17 = .ok (.dup2, 1) := by decide +kernel
theorem d_Track_connect_18 : decode prog_7_method_6_code 18 = .ok (.iaload, 1) := by decide +kernel
theorem d_Track_connect_19 : decode prog_7_method_6_code 19 = .ok (.iconst 1, 1) := by decide +kernel
theorem d_Track_connect_20 : decode prog_7_method_6_code 20 = .ok (.iload_n 1, 1) := by decide +kernel
theorem d_Track_connect_21 : decode prog_7_method_6_code 21 = .ok (.ishl, 1) := by decide +kernel
theorem d_Track_connect_22 : decode prog_7_method_6_code 22 = .ok (.ior, 1) := by decide +kernel
theorem d_Track_connect_23 : decode prog_7_method_6_code 23 = .ok (.iastore, 1) := by decide +kernel
theorem d_Track_connect_24 : decode prog_7_method_6_code 24 = .ok (.return_, 1) := by decide +kernel
theorem d_Law_robot_0 : decode method_5_code 0 = .ok (.aload_n 2, 1) := by decide +kernel
theorem d_Law_robot_1 : decode method_5_code 1 = .ok (.iconst 0, 1) := by decide +kernel
theorem d_Law_robot_2 : decode method_5_code 2 = .ok (.aload_n 0, 1) := by decide +kernel
theorem d_Law_robot_3 : decode method_5_code 3 = .ok (.iload_n 1, 1) := by decide +kernel
theorem d_Law_robot_4 : decode method_5_code 4 = .ok (.invokevirtual 23, 3) := by decide +kernel
theorem d_Law_robot_7 : decode method_5_code 7 = .ok (.i2l, 1) := by decide +kernel
theorem d_Law_robot_8 : decode method_5_code 8 = .ok (.lastore, 1) := by decide +kernel
theorem d_Law_robot_9 : decode method_5_code 9 = .ok (.goto 9, 3) := by decide +kernel
theorem d_Law_robot_12 : decode method_5_code 12 = .ok (.astore_n 3, 1) := by decide +kernel
theorem d_Law_robot_13 : decode method_5_code 13 = .ok (.iconst 1, 1) := by decide +kernel
theorem d_Law_robot_14 : decode method_5_code 14 = .ok (.ireturn, 1) := by decide +kernel
theorem d_Law_robot_15 : decode method_5_code 15 = .ok (.astore_n 3, 1) := by decide +kernel
theorem d_Law_robot_16 : decode method_5_code 16 = .ok (.iconst 2, 1) := by decide +kernel
theorem d_Law_robot_17 : decode method_5_code 17 = .ok (.ireturn, 1) := by decide +kernel
theorem d_Law_robot_18 : decode method_5_code 18 = .ok (.iconst 0, 1) := by decide +kernel
theorem d_Law_robot_19 : decode method_5_code 19 = .ok (.ireturn, 1) := by decide +kernel
theorem d_RF_robot_0 : decode prog_1_method_4_code 0 = .ok (.aload_n 0, 1) := by decide +kernel
theorem d_RF_robot_1 : decode prog_1_method_4_code 1 = .ok (.iload_n 1, 1) := by decide +kernel
theorem d_RF_robot_2 : decode prog_1_method_4_code 2 = .ok (.invokevirtual 62, 3) := by decide +kernel
theorem d_RF_robot_5 : decode prog_1_method_4_code 5 = .ok (.aload_n 0, 1) := by decide +kernel
theorem d_RF_robot_6 : decode prog_1_method_4_code 6 = .ok (.getfield 75, 3) := by decide +kernel
theorem d_RF_robot_9 : decode prog_1_method_4_code 9 = .ok (.aload_n 0, 1) := by decide +kernel
theorem d_RF_robot_10 : decode prog_1_method_4_code 10 = .ok (.getfield 24, 3) := by decide +kernel
theorem d_RF_robot_13 : decode prog_1_method_4_code 13 = .ok (.arraylength, 1) := by decide +kernel
theorem d_RF_robot_14 : decode prog_1_method_4_code 14 = .ok (.if_icmp .lt 13, 3) := by decide +kernel
theorem d_RF_robot_17 : decode prog_1_method_4_code 17 = .ok (.new 51, 3) := by decide +kernel
theorem d_RF_robot_20 : decode prog_1_method_4_code 20 = .ok (.dup, 1) := by decide +kernel
theorem d_RF_robot_21 : decode prog_1_method_4_code 21 = .ok (.ldc 79, 2) := by decide +kernel
theorem d_RF_robot_23 : decode prog_1_method_4_code 23 = .ok (.invokespecial 55, 3) := by decide +kernel
theorem d_RF_robot_26 : decode prog_1_method_4_code 26 = .ok (.athrow, 1) := by decide +kernel
theorem d_RF_robot_27 : decode prog_1_method_4_code 27 = .ok (.new 22, 3) := by decide +kernel
theorem d_RF_robot_30 : decode prog_1_method_4_code 30 = .ok (.dup, 1) := by decide +kernel
theorem d_RF_robot_31 : decode prog_1_method_4_code 31 = .ok (.aload_n 0, 1) := by decide +kernel
theorem d_RF_robot_32 : decode prog_1_method_4_code 32 = .ok (.getfield 75, 3) := by decide +kernel
theorem d_RF_robot_35 : decode prog_1_method_4_code 35 = .ok (.iload_n 1, 1) := by decide +kernel
theorem d_RF_robot_36 : decode prog_1_method_4_code 36 = .ok (.invokespecial 81, 3) := by decide +kernel
theorem d_RF_robot_39 : decode prog_1_method_4_code 39 = .ok (.astore_n 2, 1) := by decide +kernel
theorem d_RF_robot_40 : decode prog_1_method_4_code 40 = .ok (.aload_n 0, 1) := by decide +kernel
theorem d_RF_robot_41 : decode prog_1_method_4_code 41 = .ok (.getfield 24, 3) := by decide +kernel
theorem d_RF_robot_44 : decode prog_1_method_4_code 44 = .ok (.aload_n 0, 1) := by decide +kernel
theorem d_RF_robot_45 : decode prog_1_method_4_code 45 = .ok (.getfield 75, 3) := by decide +kernel
theorem d_RF_robot_48 : decode prog_1_method_4_code 48 = .ok (.aload_n 2, 1) := by decide +kernel
theorem d_RF_robot_49 : decode prog_1_method_4_code 49 = .ok (.aastore, 1) := by decide +kernel
theorem d_RF_robot_50 : decode prog_1_method_4_code 50 = .ok (.aload_n 0, 1) := by decide +kernel
theorem d_RF_robot_51 : decode prog_1_method_4_code 51 = .ok (.dup, 1) := by decide +kernel
theorem d_RF_robot_52 : decode prog_1_method_4_code 52 = .ok (.getfield 75, 3) := by decide +kernel
theorem d_RF_robot_55 : decode prog_1_method_4_code 55 = .ok (.iconst 1, 1) := by decide +kernel
theorem d_RF_robot_56 : decode prog_1_method_4_code 56 = .ok (.iadd, 1) := by decide +kernel
theorem d_RF_robot_57 : decode prog_1_method_4_code 57 = .ok (.putfield 75, 3) := by decide +kernel
theorem d_RF_robot_60 : decode prog_1_method_4_code 60 = .ok (.aload_n 2, 1) := by decide +kernel
theorem d_RF_robot_61 : decode prog_1_method_4_code 61 = .ok (.getfield 83, 3) := by decide +kernel
theorem d_RF_robot_64 : decode prog_1_method_4_code 64 = .ok (.ireturn, 1) := by decide +kernel
theorem d_Robot_init_0 : decode prog_5_method_1_code 0 = .ok (.aload_n 0, 1) := by decide +kernel
theorem d_Robot_init_1 : decode prog_5_method_1_code 1 = .ok (.invokespecial 3, 3) := by decide +kernel
theorem d_Robot_init_4 : decode prog_5_method_1_code 4 = .ok (.aload_n 0, 1) := by decide +kernel
theorem d_Robot_init_5 : decode prog_5_method_1_code 5 = .ok (.iconst 0, 1) := by decide +kernel
theorem d_Robot_init_6 : decode prog_5_method_1_code 6 = .ok (.putfield 9, 3) := by decide +kernel
theorem d_Robot_init_9 : decode prog_5_method_1_code 9 = .ok (.aload_n 0, 1) := by decide +kernel
theorem d_Robot_init_10 : decode prog_5_method_1_code 10 = .ok (.iconst (-1), 1) := by decide +kernel
theorem d_Robot_init_11 : decode prog_5_method_1_code 11 = .ok (.putfield 15, 3) := by decide +kernel
theorem d_Robot_init_14 : decode prog_5_method_1_code 14 = .ok (.aload_n 0, 1) := by decide +kernel
theorem d_Robot_init_15 : decode prog_5_method_1_code 15 = .ok (.iconst 0, 1) := by decide +kernel
theorem d_Robot_init_16 : decode prog_5_method_1_code 16 = .ok (.putfield 18, 3) := by decide +kernel
theorem d_Robot_init_19 : decode prog_5_method_1_code 19 = .ok (.aload_n 0, 1) := by decide +kernel
theorem d_Robot_init_20 : decode prog_5_method_1_code 20 = .ok (.iconst 0, 1) := by decide +kernel
theorem d_Robot_init_21 : decode prog_5_method_1_code 21 = .ok (.putfield 22, 3) := by decide +kernel
theorem d_Robot_init_24 : decode prog_5_method_1_code 24 = .ok (.aload_n 0, 1) := by decide +kernel
theorem d_Robot_init_25 : decode prog_5_method_1_code 25 = .ok (.iload_n 1, 1) := by decide +kernel
theorem d_Robot_init_26 : decode prog_5_method_1_code 26 = .ok (.putfield 25, 3) := by decide +kernel
theorem d_Robot_init_29 : decode prog_5_method_1_code 29 = .ok (.aload_n 0, 1) := by decide +kernel
theorem d_Robot_init_30 : decode prog_5_method_1_code 30 = .ok (.iload_n 2, 1) := by decide +kernel
theorem d_Robot_init_31 : decode prog_5_method_1_code 31 = .ok (.putfield 28, 3) := by decide +kernel
theorem d_Robot_init_34 : decode prog_5_method_1_code 34 = .ok (.return_, 1) := by decide +kernel
theorem d_Law_rule_0 : decode method_6_code 0 = .ok (.aload_n 0, 1) := by decide +kernel
theorem d_Law_rule_1 : decode method_6_code 1 = .ok (.iload_n 1, 1) := by decide +kernel
theorem d_Law_rule_2 : decode method_6_code 2 = .ok (.iload_n 2, 1) := by decide +kernel
theorem d_Law_rule_3 : decode method_6_code 3 = .ok (.iload_n 3, 1) := by decide +kernel
theorem d_Law_rule_4 : decode method_6_code 4 = .ok (.iload 4, 2) := by decide +kernel
theorem d_Law_rule_6 : decode method_6_code 6 = .ok (.invokevirtual 27, 3) := by decide +kernel
theorem d_Law_rule_9 : decode method_6_code 9 = .ok (.goto 7, 3) := by decide +kernel
theorem d_Law_rule_12 : decode method_6_code 12 = .ok (.astore 5, 2) := by decide +kernel
theorem d_Law_rule_14 : decode method_6_code 14 = .ok (.iconst 1, 1) := by decide +kernel
theorem d_Law_rule_15 : decode method_6_code 15 = .ok (.ireturn, 1) := by decide +kernel
theorem d_Law_rule_16 : decode method_6_code 16 = .ok (.iconst 0, 1) := by decide +kernel
theorem d_Law_rule_17 : decode method_6_code 17 = .ok (.ireturn, 1) := by decide +kernel
theorem d_RF_rule_0 : decode prog_1_method_5_code 0 = .ok (.iload_n 1, 1) := by decide +kernel
theorem d_RF_rule_1 : decode prog_1_method_5_code 1 = .ok (.invokestatic 86, 3) := by decide +kernel
theorem d_RF_rule_4 : decode prog_1_method_5_code 4 = .ok (.iload_n 2, 1) := by decide +kernel
theorem d_RF_rule_5 : decode prog_1_method_5_code 5 = .ok (.iconst 1, 1) := by decide +kernel
theorem d_RF_rule_6 : decode prog_1_method_5_code 6 = .ok (.if_icmp .lt 8, 3) := by decide +kernel
theorem d_RF_rule_9 : decode prog_1_method_5_code 9 = .ok (.iload_n 2, 1) := by decide +kernel
theorem d_RF_rule_10 : decode prog_1_method_5_code 10 = .ok (.iconst 2, 1) := by decide +kernel
theorem d_RF_rule_11 : decode prog_1_method_5_code 11 = .ok (.if_icmp .le 13, 3) := by decide +kernel
theorem d_RF_rule_14 : decode prog_1_method_5_code 14 = .ok (.new 66, 3) := by decide +kernel
theorem d_RF_rule_17 : decode prog_1_method_5_code 17 = .ok (.dup, 1) := by decide +kernel
theorem d_RF_rule_18 : decode prog_1_method_5_code 18 = .ok (.ldc 89, 2) := by decide +kernel
theorem d_RF_rule_20 : decode prog_1_method_5_code 20 = .ok (.invokespecial 70, 3) := by decide +kernel
theorem d_RF_rule_23 : decode prog_1_method_5_code 23 = .ok (.athrow, 1) := by decide +kernel
theorem d_RF_rule_24 : decode prog_1_method_5_code 24 = .ok (.iload 4, 2) := by decide +kernel
theorem d_RF_rule_26 : decode prog_1_method_5_code 26 = .ok (.iconst 1, 1) := by decide +kernel
theorem d_RF_rule_27 : decode prog_1_method_5_code 27 = .ok (.if_icmp .lt 9, 3) := by decide +kernel
theorem d_RF_rule_30 : decode prog_1_method_5_code 30 = .ok (.iload 4, 2) := by decide +kernel
theorem d_RF_rule_32 : decode prog_1_method_5_code 32 = .ok (.iconst 5, 1) := by decide +kernel
theorem d_RF_rule_33 : decode prog_1_method_5_code 33 = .ok (.if_icmp .le 13, 3) := by decide +kernel
theorem d_RF_rule_36 : decode prog_1_method_5_code 36 = .ok (.new 66, 3) := by decide +kernel
theorem d_RF_rule_39 : decode prog_1_method_5_code 39 = .ok (.dup, 1) := by decide +kernel
theorem d_RF_rule_40 : decode prog_1_method_5_code 40 = .ok (.ldc 91, 2) := by decide +kernel
theorem d_RF_rule_42 : decode prog_1_method_5_code 42 = .ok (.invokespecial 70, 3) := by decide +kernel
theorem d_RF_rule_45 : decode prog_1_method_5_code 45 = .ok (.athrow, 1) := by decide +kernel
