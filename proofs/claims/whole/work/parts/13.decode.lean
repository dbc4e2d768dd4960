/-! decode rows: printed by wip/gen/names.py -/
theorem d_Track_fewestLinks_2 : decode prog_7_method_9_code 2 = .ok (.iload_n 3, 1) := by decide +kernel
theorem d_Track_fewestLinks_3 : decode prog_7_method_9_code 3 = .ok (.bipush 20, 2) := by decide +kernel
theorem d_Track_fewestLinks_5 : decode prog_7_method_9_code 5 = .ok (.if_icmp .ge 22, 3) := by decide +kernel
theorem d_Track_fewestLinks_8 : decode prog_7_method_9_code 8 = .ok (.aload_n 0, 1) := by decide +kernel
theorem d_Track_fewestLinks_9 : decode prog_7_method_9_code 9 = .ok (.iload_n 1, 1) := by decide +kernel
theorem d_Track_fewestLinks_10 : decode prog_7_method_9_code 10 = .ok (.iload_n 3, 1) := by decide +kernel
theorem d_Track_fewestLinks_11 : decode prog_7_method_9_code 11 = .ok (.invokevirtual 27, 3) := by decide +kernel
theorem d_Track_fewestLinks_14 : decode prog_7_method_9_code 14 = .ok (.iload_n 2, 1) := by decide +kernel
theorem d_Track_fewestLinks_15 : decode prog_7_method_9_code 15 = .ok (.invokestatic 19, 3) := by decide +kernel
theorem d_Track_fewestLinks_18 : decode prog_7_method_9_code 18 = .ok (.ifCond .ne 9, 3) := by decide +kernel
theorem d_Track_fewestLinks_21 : decode prog_7_method_9_code 21 = .ok (.iinc 3 1, 3) := by decide +kernel
theorem d_Track_fewestLinks_24 : decode prog_7_method_9_code 24 = .ok (.goto (-22), 3) := by decide +kernel
theorem d_Track_fewestLinks_27 : decode prog_7_method_9_code 27 = .ok (.iload_n 3, 1) := by decide +kernel
theorem d_Track_fewestLinks_28 : decode prog_7_method_9_code 28 = .ok (.ireturn, 1) := by decide +kernel
theorem d_Law_tow_0 : decode method_15_code 0 = .ok (.aload_n 0, 1) := by decide +kernel
theorem d_Law_tow_1 : decode method_15_code 1 = .ok (.iload_n 1, 1) := by decide +kernel
theorem d_Law_tow_2 : decode method_15_code 2 = .ok (.iload_n 2, 1) := by decide +kernel
theorem d_Law_tow_3 : decode method_15_code 3 = .ok (.invokevirtual 59, 3) := by decide +kernel
theorem d_Law_tow_6 : decode method_15_code 6 = .ok (.goto 9, 3) := by decide +kernel
theorem d_Law_tow_9 : decode method_15_code 9 = .ok (.astore_n 3, 1) := by decide +kernel
theorem d_Law_tow_10 : decode method_15_code 10 = .ok (.iconst 1, 1) := by decide +kernel
theorem d_Law_tow_11 : decode method_15_code 11 = .ok (.ireturn, 1) := by decide +kernel
theorem d_Law_tow_12 : decode method_15_code 12 = .ok (.astore_n 3, 1) := by decide +kernel
theorem d_Law_tow_13 : decode method_15_code 13 = .ok (.iconst 2, 1) := by decide +kernel
theorem d_Law_tow_14 : decode method_15_code 14 = .ok (.ireturn, 1) := by decide +kernel
theorem d_Law_tow_15 : decode method_15_code 15 = .ok (.iconst 0, 1) := by decide +kernel
theorem d_Law_tow_16 : decode method_15_code 16 = .ok (.ireturn, 1) := by decide +kernel
theorem d_RF_tow_0 : decode prog_1_method_14_code 0 = .ok (.aload_n 0, 1) := by decide +kernel
theorem d_RF_tow_1 : decode prog_1_method_14_code 1 = .ok (.iload_n 1, 1) := by decide +kernel
theorem d_RF_tow_2 : decode prog_1_method_14_code 2 = .ok (.invokevirtual 97, 3) := by decide +kernel
theorem d_RF_tow_5 : decode prog_1_method_14_code 5 = .ok (.astore_n 3, 1) := by decide +kernel
theorem d_RF_tow_6 : decode prog_1_method_14_code 6 = .ok (.aload_n 0, 1) := by decide +kernel
theorem d_RF_tow_7 : decode prog_1_method_14_code 7 = .ok (.iload_n 2, 1) := by decide +kernel
theorem d_RF_tow_8 : decode prog_1_method_14_code 8 = .ok (.invokevirtual 62, 3) := by decide +kernel
theorem d_RF_tow_11 : decode prog_1_method_14_code 11 = .ok (.aload_n 3, 1) := by decide +kernel
theorem d_RF_tow_12 : decode prog_1_method_14_code 12 = .ok (.getfield 101, 3) := by decide +kernel
theorem d_RF_tow_15 : decode prog_1_method_14_code 15 = .ok (.iconst 1, 1) := by decide +kernel
theorem d_RF_tow_16 : decode prog_1_method_14_code 16 = .ok (.if_icmp .eq 21, 3) := by decide +kernel
theorem d_RF_tow_19 : decode prog_1_method_14_code 19 = .ok (.aload_n 3, 1) := by decide +kernel
theorem d_RF_tow_20 : decode prog_1_method_14_code 20 = .ok (.getfield 101, 3) := by decide +kernel
theorem d_RF_tow_23 : decode prog_1_method_14_code 23 = .ok (.iconst 3, 1) := by decide +kernel
theorem d_RF_tow_24 : decode prog_1_method_14_code 24 = .ok (.if_icmp .eq 13, 3) := by decide +kernel
theorem d_RF_tow_27 : decode prog_1_method_14_code 27 = .ok (.new 104, 3) := by decide +kernel
theorem d_RF_tow_30 : decode prog_1_method_14_code 30 = .ok (.dup, 1) := by decide +kernel
theorem d_RF_tow_31 : decode prog_1_method_14_code 31 = .ok (.ldc 193, 2) := by decide +kernel
theorem d_RF_tow_33 : decode prog_1_method_14_code 33 = .ok (.invokespecial 108, 3) := by decide +kernel
theorem d_RF_tow_36 : decode prog_1_method_14_code 36 = .ok (.athrow, 1) := by decide +kernel
theorem d_RF_tow_37 : decode prog_1_method_14_code 37 = .ok (.aload_n 3, 1) := by decide +kernel
theorem d_RF_tow_38 : decode prog_1_method_14_code 38 = .ok (.iconst 3, 1) := by decide +kernel
theorem d_RF_tow_39 : decode prog_1_method_14_code 39 = .ok (.putfield 101, 3) := by decide +kernel
theorem d_RF_tow_42 : decode prog_1_method_14_code 42 = .ok (.aload_n 3, 1) := by decide +kernel
theorem d_RF_tow_43 : decode prog_1_method_14_code 43 = .ok (.iload_n 2, 1) := by decide +kernel
theorem d_RF_tow_44 : decode prog_1_method_14_code 44 = .ok (.putfield 109, 3) := by decide +kernel
theorem d_RF_tow_47 : decode prog_1_method_14_code 47 = .ok (.return_, 1) := by decide +kernel
theorem d_Law_plant_0 : decode method_16_code 0 = .ok (.aload_n 0, 1) := by decide +kernel
theorem d_Law_plant_1 : decode method_16_code 1 = .ok (.iload_n 1, 1) := by decide +kernel
theorem d_Law_plant_2 : decode method_16_code 2 = .ok (.iload_n 2, 1) := by decide +kernel
theorem d_Law_plant_3 : decode method_16_code 3 = .ok (.iload_n 3, 1) := by decide +kernel
theorem d_Law_plant_4 : decode method_16_code 4 = .ok (.invokevirtual 62, 3) := by decide +kernel
theorem d_Law_plant_7 : decode method_16_code 7 = .ok (.goto 15, 3) := by decide +kernel
theorem d_Law_plant_10 : decode method_16_code 10 = .ok (.astore 4, 2) := by decide +kernel
theorem d_Law_plant_12 : decode method_16_code 12 = .ok (.iconst 1, 1) := by decide +kernel
theorem d_Law_plant_13 : decode method_16_code 13 = .ok (.ireturn, 1) := by decide +kernel
theorem d_Law_plant_14 : decode method_16_code 14 = .ok (.astore 4, 2) := by decide +kernel
theorem d_Law_plant_16 : decode method_16_code 16 = .ok (.iconst 2, 1) := by decide +kernel
theorem d_Law_plant_17 : decode method_16_code 17 = .ok (.ireturn, 1) := by decide +kernel
theorem d_Law_plant_18 : decode method_16_code 18 = .ok (.astore 4, 2) := by decide +kernel
theorem d_Law_plant_20 : decode method_16_code 20 = .ok (.iconst 3, 1) := by decide +kernel
theorem d_Law_plant_21 : decode method_16_code 21 = .ok (.ireturn, 1) := by decide +kernel
theorem d_Law_plant_22 : decode method_16_code 22 = .ok (.iconst 0, 1) := by decide +kernel
theorem d_Law_plant_23 : decode method_16_code 23 = .ok (.ireturn, 1) := by decide +kernel
theorem d_RF_plant_0 : decode prog_1_method_15_code 0 = .ok (.aload_n 0, 1) := by decide +kernel
theorem d_RF_plant_1 : decode prog_1_method_15_code 1 = .ok (.iload_n 1, 1) := by decide +kernel
theorem d_RF_plant_2 : decode prog_1_method_15_code 2 = .ok (.invokevirtual 97, 3) := by decide +kernel
theorem d_RF_plant_5 : decode prog_1_method_15_code 5 = .ok (.astore 4, 2) := by decide +kernel
theorem d_RF_plant_7 : decode prog_1_method_15_code 7 = .ok (.iload_n 2, 1) := by decide +kernel
theorem d_RF_plant_8 : decode prog_1_method_15_code 8 = .ok (.invokestatic 86, 3) := by decide +kernel
theorem d_RF_plant_11 : decode prog_1_method_15_code 11 = .ok (.iload_n 3, 1) := by decide +kernel
theorem d_RF_plant_12 : decode prog_1_method_15_code 12 = .ok (.iconst 1, 1) := by decide +kernel
theorem d_RF_plant_13 : decode prog_1_method_15_code 13 = .ok (.if_icmp .lt 10, 3) := by decide +kernel
theorem d_RF_plant_16 : decode prog_1_method_15_code 16 = .ok (.iload_n 3, 1) := by decide +kernel
theorem d_RF_plant_17 : decode prog_1_method_15_code 17 = .ok (.sipush 1000, 3) := by decide +kernel
theorem d_RF_plant_20 : decode prog_1_method_15_code 20 = .ok (.if_icmp .le 13, 3) := by decide +kernel
theorem d_RF_plant_23 : decode prog_1_method_15_code 23 = .ok (.new 66, 3) := by decide +kernel
theorem d_RF_plant_26 : decode prog_1_method_15_code 26 = .ok (.dup, 1) := by decide +kernel
theorem d_RF_plant_27 : decode prog_1_method_15_code 27 = .ok (.ldc 195, 2) := by decide +kernel
theorem d_RF_plant_29 : decode prog_1_method_15_code 29 = .ok (.invokespecial 70, 3) := by decide +kernel
theorem d_RF_plant_32 : decode prog_1_method_15_code 32 = .ok (.athrow, 1) := by decide +kernel
theorem d_RF_plant_33 : decode prog_1_method_15_code 33 = .ok (.aload_n 0, 1) := by decide +kernel
theorem d_RF_plant_34 : decode prog_1_method_15_code 34 = .ok (.getfield 197, 3) := by decide +kernel
theorem d_RF_plant_37 : decode prog_1_method_15_code 37 = .ok (.aload_n 0, 1) := by decide +kernel
theorem d_RF_plant_38 : decode prog_1_method_15_code 38 = .ok (.getfield 42, 3) := by decide +kernel
theorem d_RF_plant_41 : decode prog_1_method_15_code 41 = .ok (.arraylength, 1) := by decide +kernel
theorem d_RF_plant_42 : decode prog_1_method_15_code 42 = .ok (.if_icmp .lt 13, 3) := by decide +kernel
theorem d_RF_plant_45 : decode prog_1_method_15_code 45 = .ok (.new 51, 3) := by decide +kernel
theorem d_RF_plant_48 : decode prog_1_method_15_code 48 = .ok (.dup, 1) := by decide +kernel
theorem d_RF_plant_49 : decode prog_1_method_15_code 49 = .ok (.ldc 200, 2) := by decide +kernel
theorem d_RF_plant_51 : decode prog_1_method_15_code 51 = .ok (.invokespecial 55, 3) := by decide +kernel
theorem d_RF_plant_54 : decode prog_1_method_15_code 54 = .ok (.athrow, 1) := by decide +kernel
theorem d_RF_plant_55 : decode prog_1_method_15_code 55 = .ok (.aload_n 0, 1) := by decide +kernel
theorem d_RF_plant_56 : decode prog_1_method_15_code 56 = .ok (.getfield 42, 3) := by decide +kernel
theorem d_RF_plant_59 : decode prog_1_method_15_code 59 = .ok (.aload_n 0, 1) := by decide +kernel
theorem d_RF_plant_60 : decode prog_1_method_15_code 60 = .ok (.getfield 197, 3) := by decide +kernel
theorem d_RF_plant_63 : decode prog_1_method_15_code 63 = .ok (.new 40, 3) := by decide +kernel
theorem d_RF_plant_66 : decode prog_1_method_15_code 66 = .ok (.dup, 1) := by decide +kernel
theorem d_RF_plant_67 : decode prog_1_method_15_code 67 = .ok (.aload 4, 2) := by decide +kernel
theorem d_RF_plant_69 : decode prog_1_method_15_code 69 = .ok (.iload_n 2, 1) := by decide +kernel
theorem d_RF_plant_70 : decode prog_1_method_15_code 70 = .ok (.aload_n 0, 1) := by decide +kernel
theorem d_RF_plant_71 : decode prog_1_method_15_code 71 = .ok (.getfield 158, 3) := by decide +kernel
theorem d_RF_plant_74 : decode prog_1_method_15_code 74 = .ok (.iload_n 3, 1) := by decide +kernel
theorem d_RF_plant_75 : decode prog_1_method_15_code 75 = .ok (.iadd, 1) := by decide +kernel
theorem d_RF_plant_76 : decode prog_1_method_15_code 76 = .ok (.invokespecial 202, 3) := by decide +kernel
theorem d_RF_plant_79 : decode prog_1_method_15_code 79 = .ok (.aastore, 1) := by decide +kernel
theorem d_RF_plant_80 : decode prog_1_method_15_code 80 = .ok (.aload_n 0, 1) := by decide +kernel
theorem d_RF_plant_81 : decode prog_1_method_15_code 81 = .ok (.dup, 1) := by decide +kernel
theorem d_RF_plant_82 : decode prog_1_method_15_code 82 = .ok (.getfield 197, 3) := by decide +kernel
theorem d_RF_plant_85 : decode prog_1_method_15_code 85 = .ok (.iconst 1, 1) := by decide +kernel
theorem d_RF_plant_86 : decode prog_1_method_15_code 86 = .ok (.iadd, 1) := by decide +kernel
theorem d_RF_plant_87 : decode prog_1_method_15_code 87 = .ok (.putfield 197, 3) := by decide +kernel
theorem d_RF_plant_90 : decode prog_1_method_15_code 90 = .ok (.return_, 1) := by decide +kernel
theorem d_Planted_init_0 : decode prog_4_method_1_code 0 = .ok (.aload_n 0, 1) := by decide +kernel
theorem d_Planted_init_1 : decode prog_4_method_1_code 1 = .ok (.invokespecial 1, 3) := by decide +kernel
theorem d_Planted_init_4 : decode prog_4_method_1_code 4 = .ok (.aload_n 0, 1) := by decide +kernel
theorem d_Planted_init_5 : decode prog_4_method_1_code 5 = .ok (.aload_n 1, 1) := by decide +kernel
theorem d_Planted_init_6 : decode prog_4_method_1_code 6 = .ok (.putfield 7, 3) := by decide +kernel
theorem d_Planted_init_9 : decode prog_4_method_1_code 9 = .ok (.aload_n 0, 1) := by decide +kernel
theorem d_Planted_init_10 : decode prog_4_method_1_code 10 = .ok (.iload_n 2, 1) := by decide +kernel
theorem d_Planted_init_11 : decode prog_4_method_1_code 11 = .ok (.putfield 13, 3) := by decide +kernel
theorem d_Planted_init_14 : decode prog_4_method_1_code 14 = .ok (.aload_n 0, 1) := by decide +kernel
theorem d_Planted_init_15 : decode prog_4_method_1_code 15 = .ok (.iload_n 3, 1) := by decide +kernel
theorem d_Planted_init_16 : decode prog_4_method_1_code 16 = .ok (.putfield 17, 3) := by decide +kernel
theorem d_Planted_init_19 : decode prog_4_method_1_code 19 = .ok (.return_, 1) := by decide +kernel
theorem d_Law_pass_0 : decode method_17_code 0 = .ok (.aload_n 2, 1) := by decide +kernel
theorem d_Law_pass_1 : decode method_17_code 1 = .ok (.iconst 0, 1) := by decide +kernel
theorem d_Law_pass_2 : decode method_17_code 2 = .ok (.aload_n 0, 1) := by decide +kernel
theorem d_Law_pass_3 : decode method_17_code 3 = .ok (.iload_n 1, 1) := by decide +kernel
theorem d_Law_pass_4 : decode method_17_code 4 = .ok (.invokevirtual 66, 3) := by decide +kernel
theorem d_Law_pass_7 : decode method_17_code 7 = .ok (.i2l, 1) := by decide +kernel
theorem d_Law_pass_8 : decode method_17_code 8 = .ok (.lastore, 1) := by decide +kernel
theorem d_Law_pass_9 : decode method_17_code 9 = .ok (.goto 6, 3) := by decide +kernel
theorem d_Law_pass_12 : decode method_17_code 12 = .ok (.astore_n 3, 1) := by decide +kernel
theorem d_Law_pass_13 : decode method_17_code 13 = .ok (.iconst 1, 1) := by decide +kernel
theorem d_Law_pass_14 : decode method_17_code 14 = .ok (.ireturn, 1) := by decide +kernel
theorem d_Law_pass_15 : decode method_17_code 15 = .ok (.iconst 0, 1) := by decide +kernel
theorem d_Law_pass_16 : decode method_17_code 16 = .ok (.ireturn, 1) := by decide +kernel
theorem d_RF_pass_0 : decode prog_1_method_16_code 0 = .ok (.iload_n 1, 1) := by decide +kernel
theorem d_RF_pass_1 : decode prog_1_method_16_code 1 = .ok (.ifCond .lt 10, 3) := by decide +kernel
theorem d_RF_pass_4 : decode prog_1_method_16_code 4 = .ok (.iload_n 1, 1) := by decide +kernel
theorem d_RF_pass_5 : decode prog_1_method_16_code 5 = .ok (.sipush 1000, 3) := by decide +kernel
theorem d_RF_pass_8 : decode prog_1_method_16_code 8 = .ok (.if_icmp .le 13, 3) := by decide +kernel
theorem d_RF_pass_11 : decode prog_1_method_16_code 11 = .ok (.new 66, 3) := by decide +kernel
theorem d_RF_pass_14 : decode prog_1_method_16_code 14 = .ok (.dup, 1) := by decide +kernel
theorem d_RF_pass_15 : decode prog_1_method_16_code 15 = .ok (.ldc 205, 2) := by decide +kernel
theorem d_RF_pass_17 : decode prog_1_method_16_code 17 = .ok (.invokespecial 70, 3) := by decide +kernel
theorem d_RF_pass_20 : decode prog_1_method_16_code 20 = .ok (.athrow, 1) := by decide +kernel
theorem d_RF_pass_21 : decode prog_1_method_16_code 21 = .ok (.aload_n 0, 1) := by decide +kernel
theorem d_RF_pass_22 : decode prog_1_method_16_code 22 = .ok (.getfield 158, 3) := by decide +kernel
theorem d_RF_pass_25 : decode prog_1_method_16_code 25 = .ok (.iload_n 1, 1) := by decide +kernel
theorem d_RF_pass_26 : decode prog_1_method_16_code 26 = .ok (.iadd, 1) := by decide +kernel
theorem d_RF_pass_27 : decode prog_1_method_16_code 27 = .ok (.ldc 207, 2) := by decide +kernel
theorem d_RF_pass_29 : decode prog_1_method_16_code 29 = .ok (.if_icmp .le 13, 3) := by decide +kernel
theorem d_RF_pass_32 : decode prog_1_method_16_code 32 = .ok (.new 66, 3) := by decide +kernel
theorem d_RF_pass_35 : decode prog_1_method_16_code 35 = .ok (.dup, 1) := by decide +kernel
theorem d_RF_pass_36 : decode prog_1_method_16_code 36 = .ok (.ldc 208, 2) := by decide +kernel
theorem d_RF_pass_38 : decode prog_1_method_16_code 38 = .ok (.invokespecial 70, 3) := by decide +kernel
theorem d_RF_pass_41 : decode prog_1_method_16_code 41 = .ok (.athrow, 1) := by decide +kernel
theorem d_RF_pass_42 : decode prog_1_method_16_code 42 = .ok (.aload_n 0, 1) := by decide +kernel
theorem d_RF_pass_43 : decode prog_1_method_16_code 43 = .ok (.getfield 158, 3) := by decide +kernel
theorem d_RF_pass_46 : decode prog_1_method_16_code 46 = .ok (.iload_n 1, 1) := by decide +kernel
theorem d_RF_pass_47 : decode prog_1_method_16_code 47 = .ok (.iadd, 1) := by decide +kernel
theorem d_RF_pass_48 : decode prog_1_method_16_code 48 = .ok (.istore_n 2, 1) := by decide +kernel
theorem d_RF_pass_49 : decode prog_1_method_16_code 49 = .ok (.iconst 0, 1) := by decide +kernel
theorem d_RF_pass_50 : decode prog_1_method_16_code 50 = .ok (.istore_n 3, 1) := by decide +kernel
theorem d_RF_pass_51 : decode prog_1_method_16_code 51 = .ok (.iconst 0, 1) := by decide +kernel
theorem d_RF_pass_52 : decode prog_1_method_16_code 52 = .ok (.istore 4, 2) := by decide +kernel
theorem d_RF_pass_54 : decode prog_1_method_16_code 54 = .ok (.iload 4, 2) := by decide +kernel
theorem d_RF_pass_56 : decode prog_1_method_16_code 56 = .ok (.iload_n 1, 1) := by decide +kernel
theorem d_RF_pass_57 : decode prog_1_method_16_code 57 = .ok (.if_icmp .ge 37, 3) := by decide +kernel
theorem d_RF_pass_60 : decode prog_1_method_16_code 60 = .ok (.aload_n 0, 1) := by decide +kernel
theorem d_RF_pass_61 : decode prog_1_method_16_code 61 = .ok (.getfield 158, 3) := by decide +kernel
theorem d_RF_pass_64 : decode prog_1_method_16_code 64 = .ok (.iload_n 2, 1) := by decide +kernel
theorem d_RF_pass_65 : decode prog_1_method_16_code 65 = .ok (.if_icmp .ge 29, 3) := by decide +kernel
theorem d_RF_pass_68 : decode prog_1_method_16_code 68 = .ok (.aload_n 0, 1) := by decide +kernel
theorem d_RF_pass_69 : decode prog_1_method_16_code 69 = .ok (.aload_n 0, 1) := by decide +kernel
theorem d_RF_pass_70 : decode prog_1_method_16_code 70 = .ok (.iload_n 2, 1) := by decide +kernel
theorem d_RF_pass_71 : decode prog_1_method_16_code 71 = .ok (.invokevirtual 210, 3) := by decide +kernel
theorem d_RF_pass_74 : decode prog_1_method_16_code 74 = .ok (.putfield 158, 3) := by decide +kernel
theorem d_RF_pass_77 : decode prog_1_method_16_code 77 = .ok (.aload_n 0, 1) := by decide +kernel
theorem d_RF_pass_78 : decode prog_1_method_16_code 78 = .ok (.invokevirtual 214, 3) := by decide +kernel
theorem d_RF_pass_81 : decode prog_1_method_16_code 81 = .ok (.iload_n 3, 1) := by decide +kernel
theorem d_RF_pass_82 : decode prog_1_method_16_code 82 = .ok (.aload_n 0, 1) := by decide +kernel
theorem d_RF_pass_83 : decode prog_1_method_16_code 83 = .ok (.invokevirtual 217, 3) := by decide +kernel
theorem d_RF_pass_86 : decode prog_1_method_16_code 86 = .ok (.iadd, 1) := by decide +kernel
theorem d_RF_pass_87 : decode prog_1_method_16_code 87 = .ok (.istore_n 3, 1) := by decide +kernel
theorem d_RF_pass_88 : decode prog_1_method_16_code 88 = .ok (.iinc 4 1, 3) := by decide +kernel
theorem d_RF_pass_91 : decode prog_1_method_16_code 91 = .ok (.goto (-37), 3) := by decide +kernel
theorem d_RF_pass_94 : decode prog_1_method_16_code 94 = .ok (.iload_n 3, 1) := by decide +kernel
theorem d_RF_pass_95 : decode prog_1_method_16_code 95 = .ok (.ireturn, 1) := by decide +kernel
theorem d_RF_nextBusySecond_0 : decode prog_1_method_40_code 0 = .ok (.iload_n 1, 1) := by decide +kernel
theorem d_RF_nextBusySecond_1 : decode prog_1_method_40_code 1 = .ok (.istore_n 2, 1) := by decide +kernel
theorem d_RF_nextBusySecond_2 : decode prog_1_method_40_code 2 = .ok (.aload_n 0, 1) := by decide +kernel
theorem d_RF_nextBusySecond_3 : decode prog_1_method_40_code 3 = .ok (.getfield 42, 3) := by decide +kernel
theorem d_RF_nextBusySecond_6 : decode prog_1_method_40_code 6 = .ok (.astore_n 3, 1) := by decide +kernel
theorem d_RF_nextBusySecond_7 : decode prog_1_method_40_code 7 = .ok (.aload_n 3, 1) := by decide +kernel
theorem d_RF_nextBusySecond_8 : decode prog_1_method_40_code 8 = .ok (.arraylength, 1) := by decide +kernel
theorem d_RF_nextBusySecond_9 : decode prog_1_method_40_code 9 = .ok (.istore 4, 2) := by decide +kernel
theorem d_RF_nextBusySecond_11 : decode prog_1_method_40_code 11 = .ok (.iconst 0, 1) := by decide +kernel
theorem d_RF_nextBusySecond_12 : decode prog_1_method_40_code 12 = .ok (.istore 5, 2) := by decide +kernel
theorem d_RF_nextBusySecond_14 : decode prog_1_method_40_code 14 = .ok (.iload 5, 2) := by decide +kernel
theorem d_RF_nextBusySecond_16 : decode prog_1_method_40_code 16 = .ok (.iload 4, 2) := by decide +kernel
theorem d_RF_nextBusySecond_18 : decode prog_1_method_40_code 18 = .ok (.if_icmp .ge 30, 3) := by decide +kernel
theorem d_RF_nextBusySecond_21 : decode prog_1_method_40_code 21 = .ok (.aload_n 3, 1) := by decide +kernel
theorem d_RF_nextBusySecond_22 : decode prog_1_method_40_code 22 = .ok (.iload 5, 2) := by decide +kernel
theorem d_RF_nextBusySecond_24 : decode prog_1_method_40_code 24 = .ok (.aaload, 1) := by decide +kernel
theorem d_RF_nextBusySecond_25 : decode prog_1_method_40_code 25 = .ok (.astore 6, 2) := by decide +kernel
theorem d_RF_nextBusySecond_27 : decode prog_1_method_40_code 27 = .ok (.aload 6, 2) := by decide +kernel
theorem d_RF_nextBusySecond_29 : decode prog_1_method_40_code 29 = .ok (.ifnull 13, 3) := by decide +kernel
theorem d_RF_nextBusySecond_32 : decode prog_1_method_40_code 32 = .ok (.iload_n 2, 1) := by decide +kernel
theorem d_RF_nextBusySecond_33 : decode prog_1_method_40_code 33 = .ok (.aload 6, 2) := by decide +kernel
theorem d_RF_nextBusySecond_35 : decode prog_1_method_40_code 35 = .ok (.getfield 363, 3) := by decide +kernel
theorem d_RF_nextBusySecond_38 : decode prog_1_method_40_code 38 = .ok (.invokestatic 364, 3) := by decide +kernel
theorem d_RF_nextBusySecond_41 : decode prog_1_method_40_code 41 = .ok (.istore_n 2, 1) := by decide +kernel
theorem d_RF_nextBusySecond_42 : decode prog_1_method_40_code 42 = .ok (.iinc 5 1, 3) := by decide +kernel
theorem d_RF_nextBusySecond_45 : decode prog_1_method_40_code 45 = .ok (.goto (-31), 3) := by decide +kernel
theorem d_RF_nextBusySecond_48 : decode prog_1_method_40_code 48 = .ok (.aload_n 0, 1) := by decide +kernel
theorem d_RF_nextBusySecond_49 : decode prog_1_method_40_code 49 = .ok (.getfield 36, 3) := by decide +kernel
theorem d_RF_nextBusySecond_52 : decode prog_1_method_40_code 52 = .ok (.astore_n 3, 1) := by decide +kernel
theorem d_RF_nextBusySecond_53 : decode prog_1_method_40_code 53 = .ok (.aload_n 3, 1) := by decide +kernel
theorem d_RF_nextBusySecond_54 : decode prog_1_method_40_code 54 = .ok (.arraylength, 1) := by decide +kernel
theorem d_RF_nextBusySecond_55 : decode prog_1_method_40_code 55 = .ok (.istore 4, 2) := by decide +kernel
theorem d_RF_nextBusySecond_57 : decode prog_1_method_40_code 57 = .ok (.iconst 0, 1) := by decide +kernel
theorem d_RF_nextBusySecond_58 : decode prog_1_method_40_code 58 = .ok (.istore 5, 2) := by decide +kernel
theorem d_RF_nextBusySecond_60 : decode prog_1_method_40_code 60 = .ok (.iload 5, 2) := by decide +kernel
theorem d_RF_nextBusySecond_62 : decode prog_1_method_40_code 62 = .ok (.iload 4, 2) := by decide +kernel
theorem d_RF_nextBusySecond_64 : decode prog_1_method_40_code 64 = .ok (.if_icmp .ge 42, 3) := by decide +kernel
theorem d_RF_nextBusySecond_67 : decode prog_1_method_40_code 67 = .ok (.aload_n 3, 1) := by decide +kernel
theorem d_RF_nextBusySecond_68 : decode prog_1_method_40_code 68 = .ok (.iload 5, 2) := by decide +kernel
theorem d_RF_nextBusySecond_70 : decode prog_1_method_40_code 70 = .ok (.aaload, 1) := by decide +kernel
theorem d_RF_nextBusySecond_71 : decode prog_1_method_40_code 71 = .ok (.astore 6, 2) := by decide +kernel
theorem d_RF_nextBusySecond_73 : decode prog_1_method_40_code 73 = .ok (.aload 6, 2) := by decide +kernel
theorem d_RF_nextBusySecond_75 : decode prog_1_method_40_code 75 = .ok (.ifnull 25, 3) := by decide +kernel
theorem d_RF_nextBusySecond_78 : decode prog_1_method_40_code 78 = .ok (.aload 6, 2) := by decide +kernel
theorem d_RF_nextBusySecond_80 : decode prog_1_method_40_code 80 = .ok (.invokevirtual 369, 3) := by decide +kernel
theorem d_RF_nextBusySecond_83 : decode prog_1_method_40_code 83 = .ok (.ifCond .eq 17, 3) := by decide +kernel
theorem d_RF_nextBusySecond_86 : decode prog_1_method_40_code 86 = .ok (.iload_n 2, 1) := by decide +kernel
theorem d_RF_nextBusySecond_87 : decode prog_1_method_40_code 87 = .ok (.aload 6, 2) := by decide +kernel
theorem d_RF_nextBusySecond_89 : decode prog_1_method_40_code 89 = .ok (.aload_n 0, 1) := by decide +kernel
theorem d_RF_nextBusySecond_90 : decode prog_1_method_40_code 90 = .ok (.getfield 158, 3) := by decide +kernel
theorem d_RF_nextBusySecond_93 : decode prog_1_method_40_code 93 = .ok (.invokevirtual 372, 3) := by decide +kernel
theorem d_RF_nextBusySecond_96 : decode prog_1_method_40_code 96 = .ok (.invokestatic 364, 3) := by decide +kernel
theorem d_RF_nextBusySecond_99 : decode prog_1_method_40_code 99 = .ok (.istore_n 2, 1) := by decide +kernel
theorem d_RF_nextBusySecond_100 : decode prog_1_method_40_code 100 = .ok (.iinc 5 1, 3) := by decide +kernel
theorem d_RF_nextBusySecond_103 : decode prog_1_method_40_code 103 = .ok (.goto (-43), 3) := by decide +kernel
theorem d_RF_nextBusySecond_106 : decode prog_1_method_40_code 106 = .ok (.iload_n 2, 1) := by decide +kernel
theorem d_RF_nextBusySecond_107 : decode prog_1_method_40_code 107 = .ok (.ireturn, 1) := by decide +kernel
theorem d_Math_min_0 : decode prog_14_method_69_code 0 = .ok (.iload_n 0, 1) := by decide +kernel
theorem d_Math_min_1 : decode prog_14_method_69_code 1 = .ok (.iload_n 1, 1) := by decide +kernel
theorem d_Math_min_2 : decode prog_14_method_69_code 2 = .ok (.if_icmp .gt 7, 3) := by decide +kernel
theorem d_Math_min_5 : decode prog_14_method_69_code 5 = .ok (.iload_n 0, 1) := by decide +kernel
theorem d_Math_min_6 : decode prog_14_method_69_code 6 = .ok (.goto 4, 3) := by decide +kernel
theorem d_Math_min_9 : decode prog_14_method_69_code 9 = .ok (.iload_n 1, 1) := by decide +kernel
theorem d_Math_min_10 : decode prog_14_method_69_code 10 = .ok (.ireturn, 1) := by decide +kernel
theorem d_Alarm_canRise_0 : decode prog_2_method_4_code 0 = .ok (.aload_n 0, 1) := by decide +kernel
theorem d_Alarm_canRise_1 : decode prog_2_method_4_code 1 = .ok (.invokevirtual 42, 3) := by decide +kernel
theorem d_Alarm_canRise_4 : decode prog_2_method_4_code 4 = .ok (.ifCond .ne 25, 3) := by decide +kernel
theorem d_Alarm_canRise_7 : decode prog_2_method_4_code 7 = .ok (.aload_n 0, 1) := by decide +kernel
theorem d_Alarm_canRise_8 : decode prog_2_method_4_code 8 = .ok (.getfield 38, 3) := by decide +kernel
theorem d_Alarm_canRise_11 : decode prog_2_method_4_code 11 = .ok (.invokevirtual 46, 3) := by decide +kernel
theorem d_Alarm_canRise_14 : decode prog_2_method_4_code 14 = .ok (.ifCond .eq 15, 3) := by decide +kernel
theorem d_Alarm_canRise_17 : decode prog_2_method_4_code 17 = .ok (.aload_n 0, 1) := by decide +kernel
theorem d_Alarm_canRise_18 : decode prog_2_method_4_code 18 = .ok (.getfield 9, 3) := by decide +kernel
theorem d_Alarm_canRise_21 : decode prog_2_method_4_code 21 = .ok (.iconst 3, 1) := by decide +kernel
theorem d_Alarm_canRise_22 : decode prog_2_method_4_code 22 = .ok (.if_icmp .ge 7, 3) := by decide +kernel
theorem d_Alarm_canRise_25 : decode prog_2_method_4_code 25 = .ok (.iconst 1, 1) := by decide +kernel
theorem d_Alarm_canRise_26 : decode prog_2_method_4_code 26 = .ok (.goto 4, 3) := by decide +kernel
theorem d_Alarm_canRise_29 : decode prog_2_method_4_code 29 = .ok (.iconst 0, 1) := by decide +kernel
theorem d_Alarm_canRise_30 : decode prog_2_method_4_code 30 = .ok (.ireturn, 1) := by decide +kernel
theorem d_Alarm_nextRise_0 : decode prog_2_method_6_code 0 = .ok (.iload_n 1, 1) := by decide +kernel
theorem d_Alarm_nextRise_1 : decode prog_2_method_6_code 1 = .ok (.aload_n 0, 1) := by decide +kernel
theorem d_Alarm_nextRise_2 : decode prog_2_method_6_code 2 = .ok (.getfield 38, 3) := by decide +kernel
theorem d_Alarm_nextRise_5 : decode prog_2_method_6_code 5 = .ok (.getfield 49, 3) := by decide +kernel
theorem d_Alarm_nextRise_8 : decode prog_2_method_6_code 8 = .ok (.isub, 1) := by decide +kernel
theorem d_Alarm_nextRise_9 : decode prog_2_method_6_code 9 = .ok (.bipush 30, 2) := by decide +kernel
theorem d_Alarm_nextRise_11 : decode prog_2_method_6_code 11 = .ok (.idiv, 1) := by decide +kernel
theorem d_Alarm_nextRise_12 : decode prog_2_method_6_code 12 = .ok (.iconst 1, 1) := by decide +kernel
theorem d_Alarm_nextRise_13 : decode prog_2_method_6_code 13 = .ok (.iadd, 1) := by decide +kernel
theorem d_Alarm_nextRise_14 : decode prog_2_method_6_code 14 = .ok (.istore_n 2, 1) := by decide +kernel
theorem d_Alarm_nextRise_15 : decode prog_2_method_6_code 15 = .ok (.aload_n 0, 1) := by decide +kernel
theorem d_Alarm_nextRise_16 : decode prog_2_method_6_code 16 = .ok (.getfield 38, 3) := by decide +kernel
theorem d_Alarm_nextRise_19 : decode prog_2_method_6_code 19 = .ok (.getfield 49, 3) := by decide +kernel
theorem d_Alarm_nextRise_22 : decode prog_2_method_6_code 22 = .ok (.iload_n 2, 1) := by decide +kernel
theorem d_Alarm_nextRise_23 : decode prog_2_method_6_code 23 = .ok (.bipush 30, 2) := by decide +kernel
theorem d_Alarm_nextRise_25 : decode prog_2_method_6_code 25 = .ok (.imul, 1) := by decide +kernel
theorem d_Alarm_nextRise_26 : decode prog_2_method_6_code 26 = .ok (.iadd, 1) := by decide +kernel
theorem d_Alarm_nextRise_27 : decode prog_2_method_6_code 27 = .ok (.ireturn, 1) := by decide +kernel
theorem d_RF_letPlantedCome_0 : decode prog_1_method_41_code 0 = .ok (.iconst 0, 1) := by decide +kernel
theorem d_RF_letPlantedCome_1 : decode prog_1_method_41_code 1 = .ok (.istore_n 1, 1) := by decide +kernel
theorem d_RF_letPlantedCome_2 : decode prog_1_method_41_code 2 = .ok (.iconst 0, 1) := by decide +kernel
theorem d_RF_letPlantedCome_3 : decode prog_1_method_41_code 3 = .ok (.istore_n 2, 1) := by decide +kernel
theorem d_RF_letPlantedCome_4 : decode prog_1_method_41_code 4 = .ok (.iload_n 2, 1) := by decide +kernel
theorem d_RF_letPlantedCome_5 : decode prog_1_method_41_code 5 = .ok (.aload_n 0, 1) := by decide +kernel
theorem d_RF_letPlantedCome_6 : decode prog_1_method_41_code 6 = .ok (.getfield 42, 3) := by decide +kernel
theorem d_RF_letPlantedCome_9 : decode prog_1_method_41_code 9 = .ok (.arraylength, 1) := by decide +kernel
theorem d_RF_letPlantedCome_10 : decode prog_1_method_41_code 10 = .ok (.if_icmp .ge 60, 3) := by decide +kernel
theorem d_RF_letPlantedCome_13 : decode prog_1_method_41_code 13 = .ok (.aload_n 0, 1) := by decide +kernel
theorem d_RF_letPlantedCome_14 : decode prog_1_method_41_code 14 = .ok (.getfield 42, 3) := by decide +kernel
theorem d_RF_letPlantedCome_17 : decode prog_1_method_41_code 17 = .ok (.iload_n 2, 1) := by decide +kernel
theorem d_RF_letPlantedCome_18 : decode prog_1_method_41_code 18 = .ok (.aaload, 1) := by decide +kernel
theorem d_RF_letPlantedCome_19 : decode prog_1_method_41_code 19 = .ok (.astore_n 3, 1) := by decide +kernel
theorem d_RF_letPlantedCome_20 : decode prog_1_method_41_code 20 = .ok (.aload_n 0, 1) := by decide +kernel
theorem d_RF_letPlantedCome_21 : decode prog_1_method_41_code 21 = .ok (.getfield 42, 3) := by decide +kernel
theorem d_RF_letPlantedCome_24 : decode prog_1_method_41_code 24 = .ok (.iload_n 2, 1) := by decide +kernel
theorem d_RF_letPlantedCome_25 : decode prog_1_method_41_code 25 = .ok (.aconst_null, 1) := by decide +kernel
theorem d_RF_letPlantedCome_26 : decode prog_1_method_41_code 26 = .ok (.aastore, 1) := by decide +kernel
theorem d_RF_letPlantedCome_27 : decode prog_1_method_41_code 27 = .ok (.aload_n 3, 1) := by decide +kernel
theorem d_RF_letPlantedCome_28 : decode prog_1_method_41_code 28 = .ok (.ifnull 22, 3) := by decide +kernel
theorem d_RF_letPlantedCome_31 : decode prog_1_method_41_code 31 = .ok (.aload_n 3, 1) := by decide +kernel
theorem d_RF_letPlantedCome_32 : decode prog_1_method_41_code 32 = .ok (.getfield 363, 3) := by decide +kernel
theorem d_RF_letPlantedCome_35 : decode prog_1_method_41_code 35 = .ok (.aload_n 0, 1) := by decide +kernel
theorem d_RF_letPlantedCome_36 : decode prog_1_method_41_code 36 = .ok (.getfield 158, 3) := by decide +kernel
theorem d_RF_letPlantedCome_39 : decode prog_1_method_41_code 39 = .ok (.if_icmp .gt 11, 3) := by decide +kernel
theorem d_RF_letPlantedCome_42 : decode prog_1_method_41_code 42 = .ok (.aload_n 0, 1) := by decide +kernel
theorem d_RF_letPlantedCome_43 : decode prog_1_method_41_code 43 = .ok (.aload_n 3, 1) := by decide +kernel
theorem d_RF_letPlantedCome_44 : decode prog_1_method_41_code 44 = .ok (.invokevirtual 375, 3) := by decide +kernel
theorem d_RF_letPlantedCome_47 : decode prog_1_method_41_code 47 = .ok (.goto 17, 3) := by decide +kernel
theorem d_RF_letPlantedCome_50 : decode prog_1_method_41_code 50 = .ok (.aload_n 3, 1) := by decide +kernel
theorem d_RF_letPlantedCome_51 : decode prog_1_method_41_code 51 = .ok (.ifnull 13, 3) := by decide +kernel
theorem d_RF_letPlantedCome_54 : decode prog_1_method_41_code 54 = .ok (.aload_n 0, 1) := by decide +kernel
theorem d_RF_letPlantedCome_55 : decode prog_1_method_41_code 55 = .ok (.getfield 42, 3) := by decide +kernel
theorem d_RF_letPlantedCome_58 : decode prog_1_method_41_code 58 = .ok (.iload_n 1, 1) := by decide +kernel
theorem d_RF_letPlantedCome_59 : decode prog_1_method_41_code 59 = .ok (.aload_n 3, 1) := by decide +kernel
theorem d_RF_letPlantedCome_60 : decode prog_1_method_41_code 60 = .ok (.aastore, 1) := by decide +kernel
theorem d_RF_letPlantedCome_61 : decode prog_1_method_41_code 61 = .ok (.iinc 1 1, 3) := by decide +kernel
theorem d_RF_letPlantedCome_64 : decode prog_1_method_41_code 64 = .ok (.iinc 2 1, 3) := by decide +kernel
theorem d_RF_letPlantedCome_67 : decode prog_1_method_41_code 67 = .ok (.goto (-63), 3) := by decide +kernel
theorem d_RF_letPlantedCome_70 : decode prog_1_method_41_code 70 = .ok (.aload_n 0, 1) := by decide +kernel
theorem d_RF_letPlantedCome_71 : decode prog_1_method_41_code 71 = .ok (.iload_n 1, 1) := by decide +kernel
theorem d_RF_letPlantedCome_72 : decode prog_1_method_41_code 72 = .ok (.putfield 197, 3) := by decide +kernel
theorem d_RF_letPlantedCome_75 : decode prog_1_method_41_code 75 = .ok (.return_, 1) := by decide +kernel
theorem d_RF_bring_0 : decode prog_1_method_42_code 0 = .ok (.aload_n 1, 1) := by decide +kernel
theorem d_RF_bring_1 : decode prog_1_method_42_code 1 = .ok (.getfield 379, 3) := by decide +kernel
theorem d_RF_bring_4 : decode prog_1_method_42_code 4 = .ok (.aload_n 1, 1) := by decide +kernel
theorem d_RF_bring_5 : decode prog_1_method_42_code 5 = .ok (.getfield 380, 3) := by decide +kernel
theorem d_RF_bring_8 : decode prog_1_method_42_code 8 = .ok (.invokestatic 125, 3) := by decide +kernel
theorem d_RF_bring_11 : decode prog_1_method_42_code 11 = .ok (.ifCond .ne 24, 3) := by decide +kernel
theorem d_RF_bring_14 : decode prog_1_method_42_code 14 = .ok (.aload_n 0, 1) := by decide +kernel
theorem d_RF_bring_15 : decode prog_1_method_42_code 15 = .ok (.invokevirtual 131, 3) := by decide +kernel
theorem d_RF_bring_18 : decode prog_1_method_42_code 18 = .ok (.ifCond .eq 17, 3) := by decide +kernel
theorem d_RF_bring_21 : decode prog_1_method_42_code 21 = .ok (.aload_n 0, 1) := by decide +kernel
theorem d_RF_bring_22 : decode prog_1_method_42_code 22 = .ok (.aload_n 1, 1) := by decide +kernel
theorem d_RF_bring_23 : decode prog_1_method_42_code 23 = .ok (.getfield 379, 3) := by decide +kernel
theorem d_RF_bring_26 : decode prog_1_method_42_code 26 = .ok (.aload_n 1, 1) := by decide +kernel
theorem d_RF_bring_27 : decode prog_1_method_42_code 27 = .ok (.getfield 380, 3) := by decide +kernel
theorem d_RF_bring_30 : decode prog_1_method_42_code 30 = .ok (.iconst 1, 1) := by decide +kernel
theorem d_RF_bring_31 : decode prog_1_method_42_code 31 = .ok (.invokevirtual 136, 3) := by decide +kernel
theorem d_RF_bring_34 : decode prog_1_method_42_code 34 = .ok (.pop, 1) := by decide +kernel
theorem d_RF_bring_35 : decode prog_1_method_42_code 35 = .ok (.return_, 1) := by decide +kernel
theorem d_RF_raiseAlarms_0 : decode prog_1_method_43_code 0 = .ok (.iconst 0, 1) := by decide +kernel
theorem d_RF_raiseAlarms_1 : decode prog_1_method_43_code 1 = .ok (.istore_n 1, 1) := by decide +kernel
theorem d_RF_raiseAlarms_2 : decode prog_1_method_43_code 2 = .ok (.aload_n 0, 1) := by decide +kernel
theorem d_RF_raiseAlarms_3 : decode prog_1_method_43_code 3 = .ok (.getfield 36, 3) := by decide +kernel
theorem d_RF_raiseAlarms_6 : decode prog_1_method_43_code 6 = .ok (.astore_n 2, 1) := by decide +kernel
theorem d_RF_raiseAlarms_7 : decode prog_1_method_43_code 7 = .ok (.aload_n 2, 1) := by decide +kernel
theorem d_RF_raiseAlarms_8 : decode prog_1_method_43_code 8 = .ok (.arraylength, 1) := by decide +kernel
theorem d_RF_raiseAlarms_9 : decode prog_1_method_43_code 9 = .ok (.istore_n 3, 1) := by decide +kernel
theorem d_RF_raiseAlarms_10 : decode prog_1_method_43_code 10 = .ok (.iconst 0, 1) := by decide +kernel
theorem d_RF_raiseAlarms_11 : decode prog_1_method_43_code 11 = .ok (.istore 4, 2) := by decide +kernel
theorem d_RF_raiseAlarms_13 : decode prog_1_method_43_code 13 = .ok (.iload 4, 2) := by decide +kernel
theorem d_RF_raiseAlarms_15 : decode prog_1_method_43_code 15 = .ok (.iload_n 3, 1) := by decide +kernel
theorem d_RF_raiseAlarms_16 : decode prog_1_method_43_code 16 = .ok (.if_icmp .ge 54, 3) := by decide +kernel
theorem d_RF_raiseAlarms_19 : decode prog_1_method_43_code 19 = .ok (.aload_n 2, 1) := by decide +kernel
theorem d_RF_raiseAlarms_20 : decode prog_1_method_43_code 20 = .ok (.iload 4, 2) := by decide +kernel
theorem d_RF_raiseAlarms_22 : decode prog_1_method_43_code 22 = .ok (.aaload, 1) := by decide +kernel
theorem d_RF_raiseAlarms_23 : decode prog_1_method_43_code 23 = .ok (.astore 5, 2) := by decide +kernel
theorem d_RF_raiseAlarms_25 : decode prog_1_method_43_code 25 = .ok (.aload 5, 2) := by decide +kernel
theorem d_RF_raiseAlarms_27 : decode prog_1_method_43_code 27 = .ok (.ifnull 37, 3) := by decide +kernel
theorem d_RF_raiseAlarms_30 : decode prog_1_method_43_code 30 = .ok (.aload 5, 2) := by decide +kernel
theorem d_RF_raiseAlarms_32 : decode prog_1_method_43_code 32 = .ok (.invokevirtual 369, 3) := by decide +kernel
theorem d_RF_raiseAlarms_35 : decode prog_1_method_43_code 35 = .ok (.ifCond .eq 29, 3) := by decide +kernel
theorem d_RF_raiseAlarms_38 : decode prog_1_method_43_code 38 = .ok (.aload 5, 2) := by decide +kernel
theorem d_RF_raiseAlarms_40 : decode prog_1_method_43_code 40 = .ok (.aload_n 0, 1) := by decide +kernel
theorem d_RF_raiseAlarms_41 : decode prog_1_method_43_code 41 = .ok (.getfield 158, 3) := by decide +kernel
theorem d_RF_raiseAlarms_44 : decode prog_1_method_43_code 44 = .ok (.invokevirtual 381, 3) := by decide +kernel
theorem d_RF_raiseAlarms_47 : decode prog_1_method_43_code 47 = .ok (.ifCond .eq 17, 3) := by decide +kernel
theorem d_RF_raiseAlarms_50 : decode prog_1_method_43_code 50 = .ok (.aload 5, 2) := by decide +kernel
theorem d_RF_raiseAlarms_52 : decode prog_1_method_43_code 52 = .ok (.dup, 1) := by decide +kernel
theorem d_RF_raiseAlarms_53 : decode prog_1_method_43_code 53 = .ok (.getfield 232, 3) := by decide +kernel
theorem d_RF_raiseAlarms_56 : decode prog_1_method_43_code 56 = .ok (.iconst 1, 1) := by decide +kernel
theorem d_RF_raiseAlarms_57 : decode prog_1_method_43_code 57 = .ok (.iadd, 1) := by decide +kernel
theorem d_RF_raiseAlarms_58 : decode prog_1_method_43_code 58 = .ok (.putfield 232, 3) := by decide +kernel
theorem d_RF_raiseAlarms_61 : decode prog_1_method_43_code 61 = .ok (.iinc 1 1, 3) := by decide +kernel
theorem d_RF_raiseAlarms_64 : decode prog_1_method_43_code 64 = .ok (.iinc 4 1, 3) := by decide +kernel
theorem d_RF_raiseAlarms_67 : decode prog_1_method_43_code 67 = .ok (.goto (-54), 3) := by decide +kernel
theorem d_RF_raiseAlarms_70 : decode prog_1_method_43_code 70 = .ok (.iload_n 1, 1) := by decide +kernel
theorem d_RF_raiseAlarms_71 : decode prog_1_method_43_code 71 = .ok (.ireturn, 1) := by decide +kernel
theorem d_Alarm_isRiseSecond_0 : decode prog_2_method_5_code 0 = .ok (.iload_n 1, 1) := by decide +kernel
theorem d_Alarm_isRiseSecond_1 : decode prog_2_method_5_code 1 = .ok (.aload_n 0, 1) := by decide +kernel
theorem d_Alarm_isRiseSecond_2 : decode prog_2_method_5_code 2 = .ok (.getfield 38, 3) := by decide +kernel
theorem d_Alarm_isRiseSecond_5 : decode prog_2_method_5_code 5 = .ok (.getfield 49, 3) := by decide +kernel
theorem d_Alarm_isRiseSecond_8 : decode prog_2_method_5_code 8 = .ok (.if_icmp .le 22, 3) := by decide +kernel
theorem d_Alarm_isRiseSecond_11 : decode prog_2_method_5_code 11 = .ok (.iload_n 1, 1) := by decide +kernel
theorem d_Alarm_isRiseSecond_12 : decode prog_2_method_5_code 12 = .ok (.aload_n 0, 1) := by decide +kernel
theorem d_Alarm_isRiseSecond_13 : decode prog_2_method_5_code 13 = .ok (.getfield 38, 3) := by decide +kernel
theorem d_Alarm_isRiseSecond_16 : decode prog_2_method_5_code 16 = .ok (.getfield 49, 3) := by decide +kernel
theorem d_Alarm_isRiseSecond_19 : decode prog_2_method_5_code 19 = .ok (.isub, 1) := by decide +kernel
theorem d_Alarm_isRiseSecond_20 : decode prog_2_method_5_code 20 = .ok (.bipush 30, 2) := by decide +kernel
theorem d_Alarm_isRiseSecond_22 : decode prog_2_method_5_code 22 = .ok (.irem, 1) := by decide +kernel
theorem d_Alarm_isRiseSecond_23 : decode prog_2_method_5_code 23 = .ok (.ifCond .ne 7, 3) := by decide +kernel
theorem d_Alarm_isRiseSecond_26 : decode prog_2_method_5_code 26 = .ok (.iconst 1, 1) := by decide +kernel
theorem d_Alarm_isRiseSecond_27 : decode prog_2_method_5_code 27 = .ok (.goto 4, 3) := by decide +kernel
theorem d_Alarm_isRiseSecond_30 : decode prog_2_method_5_code 30 = .ok (.iconst 0, 1) := by decide +kernel
theorem d_Alarm_isRiseSecond_31 : decode prog_2_method_5_code 31 = .ok (.ireturn, 1) := by decide +kernel
theorem d_Law_acknowledge_0 : decode method_18_code 0 = .ok (.aload_n 3, 1) := by decide +kernel
theorem d_Law_acknowledge_1 : decode method_18_code 1 = .ok (.iconst 0, 1) := by decide +kernel
theorem d_Law_acknowledge_2 : decode method_18_code 2 = .ok (.aload_n 0, 1) := by decide +kernel
theorem d_Law_acknowledge_3 : decode method_18_code 3 = .ok (.iload_n 1, 1) := by decide +kernel
theorem d_Law_acknowledge_4 : decode method_18_code 4 = .ok (.iload_n 2, 1) := by decide +kernel
theorem d_Law_acknowledge_5 : decode method_18_code 5 = .ok (.invokevirtual 69, 3) := by decide +kernel
theorem d_Law_acknowledge_8 : decode method_18_code 8 = .ok (.i2l, 1) := by decide +kernel
theorem d_Law_acknowledge_9 : decode method_18_code 9 = .ok (.lastore, 1) := by decide +kernel
theorem d_Law_acknowledge_10 : decode method_18_code 10 = .ok (.goto 15, 3) := by decide +kernel
theorem d_Law_acknowledge_13 : decode method_18_code 13 = .ok (.astore 4, 2) := by decide +kernel
theorem d_Law_acknowledge_15 : decode method_18_code 15 = .ok (.iconst 1, 1) := by decide +kernel
theorem d_Law_acknowledge_16 : decode method_18_code 16 = .ok (.ireturn, 1) := by decide +kernel
theorem d_Law_acknowledge_17 : decode method_18_code 17 = .ok (.astore 4, 2) := by decide +kernel
theorem d_Law_acknowledge_19 : decode method_18_code 19 = .ok (.iconst 2, 1) := by decide +kernel
theorem d_Law_acknowledge_20 : decode method_18_code 20 = .ok (.ireturn, 1) := by decide +kernel
theorem d_Law_acknowledge_21 : decode method_18_code 21 = .ok (.astore 4, 2) := by decide +kernel
theorem d_Law_acknowledge_23 : decode method_18_code 23 = .ok (.iconst 3, 1) := by decide +kernel
theorem d_Law_acknowledge_24 : decode method_18_code 24 = .ok (.ireturn, 1) := by decide +kernel
theorem d_Law_acknowledge_25 : decode method_18_code 25 = .ok (.iconst 0, 1) := by decide +kernel
theorem d_Law_acknowledge_26 : decode method_18_code 26 = .ok (.ireturn, 1) := by decide +kernel
theorem d_RF_acknowledge_0 : decode prog_1_method_17_code 0 = .ok (.aload_n 0, 1) := by decide +kernel
theorem d_RF_acknowledge_1 : decode prog_1_method_17_code 1 = .ok (.iload_n 1, 1) := by decide +kernel
theorem d_RF_acknowledge_2 : decode prog_1_method_17_code 2 = .ok (.invokevirtual 220, 3) := by decide +kernel
theorem d_RF_acknowledge_5 : decode prog_1_method_17_code 5 = .ok (.astore_n 3, 1) := by decide +kernel
theorem d_RF_acknowledge_6 : decode prog_1_method_17_code 6 = .ok (.iload_n 2, 1) := by decide +kernel
theorem d_RF_acknowledge_7 : decode prog_1_method_17_code 7 = .ok (.invokestatic 144, 3) := by decide +kernel
theorem d_RF_acknowledge_10 : decode prog_1_method_17_code 10 = .ok (.aload_n 3, 1) := by decide +kernel
theorem d_RF_acknowledge_11 : decode prog_1_method_17_code 11 = .ok (.invokevirtual 224, 3) := by decide +kernel
theorem d_RF_acknowledge_14 : decode prog_1_method_17_code 14 = .ok (.ifCond .eq 13, 3) := by decide +kernel
theorem d_RF_acknowledge_17 : decode prog_1_method_17_code 17 = .ok (.new 104, 3) := by decide +kernel
theorem d_RF_acknowledge_20 : decode prog_1_method_17_code 20 = .ok (.dup, 1) := by decide +kernel
theorem d_RF_acknowledge_21 : decode prog_1_method_17_code 21 = .ok (.ldc 227, 2) := by decide +kernel
theorem d_RF_acknowledge_23 : decode prog_1_method_17_code 23 = .ok (.invokespecial 108, 3) := by decide +kernel
theorem d_RF_acknowledge_26 : decode prog_1_method_17_code 26 = .ok (.athrow, 1) := by decide +kernel
theorem d_RF_acknowledge_27 : decode prog_1_method_17_code 27 = .ok (.aload_n 3, 1) := by decide +kernel
theorem d_RF_acknowledge_28 : decode prog_1_method_17_code 28 = .ok (.iload_n 2, 1) := by decide +kernel
theorem d_RF_acknowledge_29 : decode prog_1_method_17_code 29 = .ok (.putfield 229, 3) := by decide +kernel
theorem d_RF_acknowledge_32 : decode prog_1_method_17_code 32 = .ok (.aload_n 3, 1) := by decide +kernel
theorem d_RF_acknowledge_33 : decode prog_1_method_17_code 33 = .ok (.getfield 232, 3) := by decide +kernel
theorem d_RF_acknowledge_36 : decode prog_1_method_17_code 36 = .ok (.ireturn, 1) := by decide +kernel
theorem d_RF_alarmAt_0 : decode prog_1_method_26_code 0 = .ok (.iload_n 1, 1) := by decide +kernel
theorem d_RF_alarmAt_1 : decode prog_1_method_26_code 1 = .ok (.ifCond .lt 21, 3) := by decide +kernel
theorem d_RF_alarmAt_4 : decode prog_1_method_26_code 4 = .ok (.iload_n 1, 1) := by decide +kernel
theorem d_RF_alarmAt_5 : decode prog_1_method_26_code 5 = .ok (.aload_n 0, 1) := by decide +kernel
theorem d_RF_alarmAt_6 : decode prog_1_method_26_code 6 = .ok (.getfield 36, 3) := by decide +kernel
theorem d_RF_alarmAt_9 : decode prog_1_method_26_code 9 = .ok (.arraylength, 1) := by decide +kernel
theorem d_RF_alarmAt_10 : decode prog_1_method_26_code 10 = .ok (.if_icmp .ge 12, 3) := by decide +kernel
theorem d_RF_alarmAt_13 : decode prog_1_method_26_code 13 = .ok (.aload_n 0, 1) := by decide +kernel
theorem d_RF_alarmAt_14 : decode prog_1_method_26_code 14 = .ok (.getfield 36, 3) := by decide +kernel
theorem d_RF_alarmAt_17 : decode prog_1_method_26_code 17 = .ok (.iload_n 1, 1) := by decide +kernel
theorem d_RF_alarmAt_18 : decode prog_1_method_26_code 18 = .ok (.aaload, 1) := by decide +kernel
theorem d_RF_alarmAt_19 : decode prog_1_method_26_code 19 = .ok (.goto 4, 3) := by decide +kernel
theorem d_RF_alarmAt_22 : decode prog_1_method_26_code 22 = .ok (.aconst_null, 1) := by decide +kernel
theorem d_RF_alarmAt_23 : decode prog_1_method_26_code 23 = .ok (.astore_n 2, 1) := by decide +kernel
theorem d_RF_alarmAt_24 : decode prog_1_method_26_code 24 = .ok (.aload_n 2, 1) := by decide +kernel
theorem d_RF_alarmAt_25 : decode prog_1_method_26_code 25 = .ok (.ifnonnull 14, 3) := by decide +kernel
theorem d_RF_alarmAt_28 : decode prog_1_method_26_code 28 = .ok (.new 302, 3) := by decide +kernel
theorem d_RF_alarmAt_31 : decode prog_1_method_26_code 31 = .ok (.dup, 1) := by decide +kernel
theorem d_RF_alarmAt_32 : decode prog_1_method_26_code 32 = .ok (.ldc_w 311, 3) := by decide +kernel
theorem d_RF_alarmAt_35 : decode prog_1_method_26_code 35 = .ok (.invokespecial 306, 3) := by decide +kernel
theorem d_RF_alarmAt_38 : decode prog_1_method_26_code 38 = .ok (.athrow, 1) := by decide +kernel
theorem d_RF_alarmAt_39 : decode prog_1_method_26_code 39 = .ok (.aload_n 2, 1) := by decide +kernel
theorem d_RF_alarmAt_40 : decode prog_1_method_26_code 40 = .ok (.areturn, 1) := by decide +kernel
theorem d_Law_alarm_0 : decode method_19_code 0 = .ok (.aload_n 3, 1) := by decide +kernel
theorem d_Law_alarm_1 : decode method_19_code 1 = .ok (.iconst 0, 1) := by decide +kernel
theorem d_Law_alarm_2 : decode method_19_code 2 = .ok (.aload_n 0, 1) := by decide +kernel
theorem d_Law_alarm_3 : decode method_19_code 3 = .ok (.iload_n 1, 1) := by decide +kernel
theorem d_Law_alarm_4 : decode method_19_code 4 = .ok (.iload_n 2, 1) := by decide +kernel
theorem d_Law_alarm_5 : decode method_19_code 5 = .ok (.invokevirtual 72, 3) := by decide +kernel
theorem d_Law_alarm_8 : decode method_19_code 8 = .ok (.i2l, 1) := by decide +kernel
theorem d_Law_alarm_9 : decode method_19_code 9 = .ok (.lastore, 1) := by decide +kernel
theorem d_Law_alarm_10 : decode method_19_code 10 = .ok (.goto 11, 3) := by decide +kernel
theorem d_Law_alarm_13 : decode method_19_code 13 = .ok (.astore 4, 2) := by decide +kernel
theorem d_Law_alarm_15 : decode method_19_code 15 = .ok (.iconst 1, 1) := by decide +kernel
theorem d_Law_alarm_16 : decode method_19_code 16 = .ok (.ireturn, 1) := by decide +kernel
theorem d_Law_alarm_17 : decode method_19_code 17 = .ok (.astore 4, 2) := by decide +kernel
theorem d_Law_alarm_19 : decode method_19_code 19 = .ok (.iconst 2, 1) := by decide +kernel
theorem d_Law_alarm_20 : decode method_19_code 20 = .ok (.ireturn, 1) := by decide +kernel
theorem d_Law_alarm_21 : decode method_19_code 21 = .ok (.iconst 0, 1) := by decide +kernel
theorem d_Law_alarm_22 : decode method_19_code 22 = .ok (.ireturn, 1) := by decide +kernel
theorem d_RF_alarm_0 : decode prog_1_method_18_code 0 = .ok (.aload_n 0, 1) := by decide +kernel
theorem d_RF_alarm_1 : decode prog_1_method_18_code 1 = .ok (.iload_n 1, 1) := by decide +kernel
theorem d_RF_alarm_2 : decode prog_1_method_18_code 2 = .ok (.invokevirtual 220, 3) := by decide +kernel
theorem d_RF_alarm_5 : decode prog_1_method_18_code 5 = .ok (.astore_n 3, 1) := by decide +kernel
theorem d_RF_alarm_6 : decode prog_1_method_18_code 6 = .ok (.iload_n 2, 1) := by decide +kernel
theorem d_RF_alarm_7 : decode prog_1_method_18_code 7 = .ok (.tableswitch 82 0 6 #[41, 49, 54, 59, 64, 69, 74], 41) := by decide +kernel
theorem d_RF_alarm_48 : decode prog_1_method_18_code 48 = .ok (.aload_n 3, 1) := by decide +kernel
theorem d_RF_alarm_49 : decode prog_1_method_18_code 49 = .ok (.getfield 235, 3) := by decide +kernel
