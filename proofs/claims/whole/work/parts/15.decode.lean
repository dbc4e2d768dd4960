/-! decode rows: printed by wip/gen/names.py -/
theorem d_Model_move_2 : decode prog_9_method_13_code 2 = .ok (.iload_n 1, 1) := by decide +kernel
theorem d_Model_move_3 : decode prog_9_method_13_code 3 = .ok (.invokevirtual 131, 3) := by decide +kernel
theorem d_Model_move_6 : decode prog_9_method_13_code 6 = .ok (.ifCond .eq 11, 3) := by decide +kernel
theorem d_Model_move_9 : decode prog_9_method_13_code 9 = .ok (.aload_n 0, 1) := by decide +kernel
theorem d_Model_move_10 : decode prog_9_method_13_code 10 = .ok (.iload_n 2, 1) := by decide +kernel
theorem d_Model_move_11 : decode prog_9_method_13_code 11 = .ok (.invokevirtual 124, 3) := by decide +kernel
theorem d_Model_move_14 : decode prog_9_method_13_code 14 = .ok (.ifCond .ne 7, 3) := by decide +kernel
theorem d_Model_move_17 : decode prog_9_method_13_code 17 = .ok (.iconst 1, 1) := by decide +kernel
theorem d_Model_move_18 : decode prog_9_method_13_code 18 = .ok (.goto 4, 3) := by decide +kernel
theorem d_Model_move_21 : decode prog_9_method_13_code 21 = .ok (.iconst 0, 1) := by decide +kernel
theorem d_Model_move_22 : decode prog_9_method_13_code 22 = .ok (.putfield 104, 3) := by decide +kernel
theorem d_Model_move_25 : decode prog_9_method_13_code 25 = .ok (.aload_n 0, 1) := by decide +kernel
theorem d_Model_move_26 : decode prog_9_method_13_code 26 = .ok (.getfield 104, 3) := by decide +kernel
theorem d_Model_move_29 : decode prog_9_method_13_code 29 = .ok (.ifCond .ne 40, 3) := by decide +kernel
theorem d_Model_move_32 : decode prog_9_method_13_code 32 = .ok (.aload_n 0, 1) := by decide +kernel
theorem d_Model_move_33 : decode prog_9_method_13_code 33 = .ok (.aload_n 0, 1) := by decide +kernel
theorem d_Model_move_34 : decode prog_9_method_13_code 34 = .ok (.getfield 20, 3) := by decide +kernel
theorem d_Model_move_37 : decode prog_9_method_13_code 37 = .ok (.iload_n 1, 1) := by decide +kernel
theorem d_Model_move_38 : decode prog_9_method_13_code 38 = .ok (.iaload, 1) := by decide +kernel
theorem d_Model_move_39 : decode prog_9_method_13_code 39 = .ok (.ifCond .ne 22, 3) := by decide +kernel
theorem d_Model_move_42 : decode prog_9_method_13_code 42 = .ok (.aload_n 0, 1) := by decide +kernel
theorem d_Model_move_43 : decode prog_9_method_13_code 43 = .ok (.getfield 7, 3) := by decide +kernel
theorem d_Model_move_46 : decode prog_9_method_13_code 46 = .ok (.bipush 20, 2) := by decide +kernel
theorem d_Model_move_48 : decode prog_9_method_13_code 48 = .ok (.aload_n 0, 1) := by decide +kernel
theorem d_Model_move_49 : decode prog_9_method_13_code 49 = .ok (.getfield 13, 3) := by decide +kernel
theorem d_Model_move_52 : decode prog_9_method_13_code 52 = .ok (.iload_n 1, 1) := by decide +kernel
theorem d_Model_move_53 : decode prog_9_method_13_code 53 = .ok (.iaload, 1) := by decide +kernel
theorem d_Model_move_54 : decode prog_9_method_13_code 54 = .ok (.imul, 1) := by decide +kernel
theorem d_Model_move_55 : decode prog_9_method_13_code 55 = .ok (.iload_n 2, 1) := by decide +kernel
theorem d_Model_move_56 : decode prog_9_method_13_code 56 = .ok (.iadd, 1) := by decide +kernel
theorem d_Model_move_57 : decode prog_9_method_13_code 57 = .ok (.baload, 1) := by decide +kernel
theorem d_Model_move_58 : decode prog_9_method_13_code 58 = .ok (.ifCond .ne 7, 3) := by decide +kernel
theorem d_Model_move_61 : decode prog_9_method_13_code 61 = .ok (.iconst 2, 1) := by decide +kernel
theorem d_Model_move_62 : decode prog_9_method_13_code 62 = .ok (.goto 4, 3) := by decide +kernel
theorem d_Model_move_65 : decode prog_9_method_13_code 65 = .ok (.iconst 0, 1) := by decide +kernel
theorem d_Model_move_66 : decode prog_9_method_13_code 66 = .ok (.putfield 104, 3) := by decide +kernel
theorem d_Model_move_69 : decode prog_9_method_13_code 69 = .ok (.aload_n 0, 1) := by decide +kernel
theorem d_Model_move_70 : decode prog_9_method_13_code 70 = .ok (.getfield 104, 3) := by decide +kernel
theorem d_Model_move_73 : decode prog_9_method_13_code 73 = .ok (.ifCond .ne 10, 3) := by decide +kernel
theorem d_Model_move_76 : decode prog_9_method_13_code 76 = .ok (.aload_n 0, 1) := by decide +kernel
theorem d_Model_move_77 : decode prog_9_method_13_code 77 = .ok (.getfield 13, 3) := by decide +kernel
theorem d_Model_move_80 : decode prog_9_method_13_code 80 = .ok (.iload_n 1, 1) := by decide +kernel
theorem d_Model_move_81 : decode prog_9_method_13_code 81 = .ok (.iload_n 2, 1) := by decide +kernel
theorem d_Model_move_82 : decode prog_9_method_13_code 82 = .ok (.iastore, 1) := by decide +kernel
theorem d_Model_move_83 : decode prog_9_method_13_code 83 = .ok (.return_, 1) := by decide +kernel
theorem d_Model_isRobot_0 : decode prog_9_method_5_code 0 = .ok (.iload_n 1, 1) := by decide +kernel
theorem d_Model_isRobot_1 : decode prog_9_method_5_code 1 = .ok (.iconst 0, 1) := by decide +kernel
theorem d_Model_isRobot_2 : decode prog_9_method_5_code 2 = .ok (.aload_n 0, 1) := by decide +kernel
theorem d_Model_isRobot_3 : decode prog_9_method_5_code 3 = .ok (.getfield 115, 3) := by decide +kernel
theorem d_Model_isRobot_6 : decode prog_9_method_5_code 6 = .ok (.iconst 1, 1) := by decide +kernel
theorem d_Model_isRobot_7 : decode prog_9_method_5_code 7 = .ok (.isub, 1) := by decide +kernel
theorem d_Model_isRobot_8 : decode prog_9_method_5_code 8 = .ok (.invokestatic 111, 3) := by decide +kernel
theorem d_Model_isRobot_11 : decode prog_9_method_5_code 11 = .ok (.ireturn, 1) := by decide +kernel
theorem d_Model_load_0 : decode prog_9_method_14_code 0 = .ok (.aload_n 0, 1) := by decide +kernel
theorem d_Model_load_1 : decode prog_9_method_14_code 1 = .ok (.aload_n 0, 1) := by decide +kernel
theorem d_Model_load_2 : decode prog_9_method_14_code 2 = .ok (.iload_n 1, 1) := by decide +kernel
theorem d_Model_load_3 : decode prog_9_method_14_code 3 = .ok (.invokevirtual 131, 3) := by decide +kernel
theorem d_Model_load_6 : decode prog_9_method_14_code 6 = .ok (.ifCond .ne 7, 3) := by decide +kernel
theorem d_Model_load_9 : decode prog_9_method_14_code 9 = .ok (.iconst 1, 1) := by decide +kernel
theorem d_Model_load_10 : decode prog_9_method_14_code 10 = .ok (.goto 18, 3) := by decide +kernel
theorem d_Model_load_13 : decode prog_9_method_14_code 13 = .ok (.iload_n 2, 1) := by decide +kernel
theorem d_Model_load_14 : decode prog_9_method_14_code 14 = .ok (.iconst (-1), 1) := by decide +kernel
theorem d_Model_load_15 : decode prog_9_method_14_code 15 = .ok (.bipush 99, 2) := by decide +kernel
theorem d_Model_load_17 : decode prog_9_method_14_code 17 = .ok (.invokestatic 111, 3) := by decide +kernel
theorem d_Model_load_20 : decode prog_9_method_14_code 20 = .ok (.ifCond .ne 7, 3) := by decide +kernel
theorem d_Model_load_23 : decode prog_9_method_14_code 23 = .ok (.iconst 2, 1) := by decide +kernel
theorem d_Model_load_24 : decode prog_9_method_14_code 24 = .ok (.goto 4, 3) := by decide +kernel
theorem d_Model_load_27 : decode prog_9_method_14_code 27 = .ok (.iconst 0, 1) := by decide +kernel
theorem d_Model_load_28 : decode prog_9_method_14_code 28 = .ok (.putfield 104, 3) := by decide +kernel
theorem d_Model_load_31 : decode prog_9_method_14_code 31 = .ok (.aload_n 0, 1) := by decide +kernel
theorem d_Model_load_32 : decode prog_9_method_14_code 32 = .ok (.getfield 104, 3) := by decide +kernel
theorem d_Model_load_35 : decode prog_9_method_14_code 35 = .ok (.ifCond .ne 22, 3) := by decide +kernel
theorem d_Model_load_38 : decode prog_9_method_14_code 38 = .ok (.aload_n 0, 1) := by decide +kernel
theorem d_Model_load_39 : decode prog_9_method_14_code 39 = .ok (.aload_n 0, 1) := by decide +kernel
theorem d_Model_load_40 : decode prog_9_method_14_code 40 = .ok (.getfield 20, 3) := by decide +kernel
theorem d_Model_load_43 : decode prog_9_method_14_code 43 = .ok (.iload_n 1, 1) := by decide +kernel
theorem d_Model_load_44 : decode prog_9_method_14_code 44 = .ok (.iaload, 1) := by decide +kernel
theorem d_Model_load_45 : decode prog_9_method_14_code 45 = .ok (.iconst 2, 1) := by decide +kernel
theorem d_Model_load_46 : decode prog_9_method_14_code 46 = .ok (.if_icmp .ne 7, 3) := by decide +kernel
theorem d_Model_load_49 : decode prog_9_method_14_code 49 = .ok (.iconst 3, 1) := by decide +kernel
theorem d_Model_load_50 : decode prog_9_method_14_code 50 = .ok (.goto 4, 3) := by decide +kernel
theorem d_Model_load_53 : decode prog_9_method_14_code 53 = .ok (.iconst 0, 1) := by decide +kernel
theorem d_Model_load_54 : decode prog_9_method_14_code 54 = .ok (.putfield 104, 3) := by decide +kernel
theorem d_Model_load_57 : decode prog_9_method_14_code 57 = .ok (.aload_n 0, 1) := by decide +kernel
theorem d_Model_load_58 : decode prog_9_method_14_code 58 = .ok (.getfield 104, 3) := by decide +kernel
theorem d_Model_load_61 : decode prog_9_method_14_code 61 = .ok (.ifCond .ne 10, 3) := by decide +kernel
theorem d_Model_load_64 : decode prog_9_method_14_code 64 = .ok (.aload_n 0, 1) := by decide +kernel
theorem d_Model_load_65 : decode prog_9_method_14_code 65 = .ok (.getfield 17, 3) := by decide +kernel
theorem d_Model_load_68 : decode prog_9_method_14_code 68 = .ok (.iload_n 1, 1) := by decide +kernel
theorem d_Model_load_69 : decode prog_9_method_14_code 69 = .ok (.iload_n 2, 1) := by decide +kernel
theorem d_Model_load_70 : decode prog_9_method_14_code 70 = .ok (.iastore, 1) := by decide +kernel
theorem d_Model_load_71 : decode prog_9_method_14_code 71 = .ok (.return_, 1) := by decide +kernel
theorem d_Model_fault_0 : decode prog_9_method_20_code 0 = .ok (.aload_n 0, 1) := by decide +kernel
theorem d_Model_fault_1 : decode prog_9_method_20_code 1 = .ok (.aload_n 0, 1) := by decide +kernel
theorem d_Model_fault_2 : decode prog_9_method_20_code 2 = .ok (.iload_n 1, 1) := by decide +kernel
theorem d_Model_fault_3 : decode prog_9_method_20_code 3 = .ok (.invokevirtual 131, 3) := by decide +kernel
theorem d_Model_fault_6 : decode prog_9_method_20_code 6 = .ok (.ifCond .ne 7, 3) := by decide +kernel
theorem d_Model_fault_9 : decode prog_9_method_20_code 9 = .ok (.iconst 1, 1) := by decide +kernel
theorem d_Model_fault_10 : decode prog_9_method_20_code 10 = .ok (.goto 15, 3) := by decide +kernel
theorem d_Model_fault_13 : decode prog_9_method_20_code 13 = .ok (.iload_n 2, 1) := by decide +kernel
theorem d_Model_fault_14 : decode prog_9_method_20_code 14 = .ok (.invokestatic 128, 3) := by decide +kernel
theorem d_Model_fault_17 : decode prog_9_method_20_code 17 = .ok (.ifCond .ne 7, 3) := by decide +kernel
theorem d_Model_fault_20 : decode prog_9_method_20_code 20 = .ok (.iconst 2, 1) := by decide +kernel
theorem d_Model_fault_21 : decode prog_9_method_20_code 21 = .ok (.goto 4, 3) := by decide +kernel
theorem d_Model_fault_24 : decode prog_9_method_20_code 24 = .ok (.iconst 0, 1) := by decide +kernel
theorem d_Model_fault_25 : decode prog_9_method_20_code 25 = .ok (.putfield 104, 3) := by decide +kernel
theorem d_Model_fault_28 : decode prog_9_method_20_code 28 = .ok (.aload_n 0, 1) := by decide +kernel
theorem d_Model_fault_29 : decode prog_9_method_20_code 29 = .ok (.getfield 104, 3) := by decide +kernel
theorem d_Model_fault_32 : decode prog_9_method_20_code 32 = .ok (.ifCond .ne 13, 3) := by decide +kernel
theorem d_Model_fault_35 : decode prog_9_method_20_code 35 = .ok (.aload_n 0, 1) := by decide +kernel
theorem d_Model_fault_36 : decode prog_9_method_20_code 36 = .ok (.aload_n 0, 1) := by decide +kernel
theorem d_Model_fault_37 : decode prog_9_method_20_code 37 = .ok (.iload_n 1, 1) := by decide +kernel
theorem d_Model_fault_38 : decode prog_9_method_20_code 38 = .ok (.iload_n 2, 1) := by decide +kernel
theorem d_Model_fault_39 : decode prog_9_method_20_code 39 = .ok (.invokevirtual 144, 3) := by decide +kernel
theorem d_Model_fault_42 : decode prog_9_method_20_code 42 = .ok (.putfield 104, 3) := by decide +kernel
theorem d_Model_fault_45 : decode prog_9_method_20_code 45 = .ok (.aload_n 0, 1) := by decide +kernel
theorem d_Model_fault_46 : decode prog_9_method_20_code 46 = .ok (.getfield 104, 3) := by decide +kernel
theorem d_Model_fault_49 : decode prog_9_method_20_code 49 = .ok (.ifCond .le 7, 3) := by decide +kernel
theorem d_Model_fault_52 : decode prog_9_method_20_code 52 = .ok (.iconst 0, 1) := by decide +kernel
theorem d_Model_fault_53 : decode prog_9_method_20_code 53 = .ok (.goto 10, 3) := by decide +kernel
theorem d_Model_fault_56 : decode prog_9_method_20_code 56 = .ok (.aload_n 0, 1) := by decide +kernel
theorem d_Model_fault_57 : decode prog_9_method_20_code 57 = .ok (.iload_n 1, 1) := by decide +kernel
theorem d_Model_fault_58 : decode prog_9_method_20_code 58 = .ok (.iload_n 2, 1) := by decide +kernel
theorem d_Model_fault_59 : decode prog_9_method_20_code 59 = .ok (.iconst 0, 1) := by decide +kernel
theorem d_Model_fault_60 : decode prog_9_method_20_code 60 = .ok (.invokevirtual 147, 3) := by decide +kernel
theorem d_Model_fault_63 : decode prog_9_method_20_code 63 = .ok (.ireturn, 1) := by decide +kernel
theorem d_Model_bars_0 : decode prog_9_method_18_code 0 = .ok (.iload_n 2, 1) := by decide +kernel
theorem d_Model_bars_1 : decode prog_9_method_18_code 1 = .ok (.iconst 2, 1) := by decide +kernel
theorem d_Model_bars_2 : decode prog_9_method_18_code 2 = .ok (.if_icmp .ne 17, 3) := by decide +kernel
theorem d_Model_bars_5 : decode prog_9_method_18_code 5 = .ok (.aload_n 0, 1) := by decide +kernel
theorem d_Model_bars_6 : decode prog_9_method_18_code 6 = .ok (.getfield 17, 3) := by decide +kernel
theorem d_Model_bars_9 : decode prog_9_method_18_code 9 = .ok (.iload_n 1, 1) := by decide +kernel
theorem d_Model_bars_10 : decode prog_9_method_18_code 10 = .ok (.iaload, 1) := by decide +kernel
theorem d_Model_bars_11 : decode prog_9_method_18_code 11 = .ok (.iconst (-1), 1) := by decide +kernel
theorem d_Model_bars_12 : decode prog_9_method_18_code 12 = .ok (.if_icmp .ne 7, 3) := by decide +kernel
theorem d_Model_bars_15 : decode prog_9_method_18_code 15 = .ok (.iconst 3, 1) := by decide +kernel
theorem d_Model_bars_16 : decode prog_9_method_18_code 16 = .ok (.goto 17, 3) := by decide +kernel
theorem d_Model_bars_19 : decode prog_9_method_18_code 19 = .ok (.aload_n 0, 1) := by decide +kernel
theorem d_Model_bars_20 : decode prog_9_method_18_code 20 = .ok (.getfield 118, 3) := by decide +kernel
theorem d_Model_bars_23 : decode prog_9_method_18_code 23 = .ok (.bipush 40, 2) := by decide +kernel
theorem d_Model_bars_25 : decode prog_9_method_18_code 25 = .ok (.if_icmp .ne 7, 3) := by decide +kernel
theorem d_Model_bars_28 : decode prog_9_method_18_code 28 = .ok (.iconst 4, 1) := by decide +kernel
theorem d_Model_bars_29 : decode prog_9_method_18_code 29 = .ok (.goto 4, 3) := by decide +kernel
theorem d_Model_bars_32 : decode prog_9_method_18_code 32 = .ok (.iconst 0, 1) := by decide +kernel
theorem d_Model_bars_33 : decode prog_9_method_18_code 33 = .ok (.ireturn, 1) := by decide +kernel
theorem d_Model_come_0 : decode prog_9_method_19_code 0 = .ok (.aload_n 0, 1) := by decide +kernel
theorem d_Model_come_1 : decode prog_9_method_19_code 1 = .ok (.iload_n 1, 1) := by decide +kernel
theorem d_Model_come_2 : decode prog_9_method_19_code 2 = .ok (.iload_n 2, 1) := by decide +kernel
theorem d_Model_come_3 : decode prog_9_method_19_code 3 = .ok (.invokevirtual 134, 3) := by decide +kernel
theorem d_Model_come_6 : decode prog_9_method_19_code 6 = .ok (.ifCond .le 11, 3) := by decide +kernel
theorem d_Model_come_9 : decode prog_9_method_19_code 9 = .ok (.aload_n 0, 1) := by decide +kernel
theorem d_Model_come_10 : decode prog_9_method_19_code 10 = .ok (.iload_n 1, 1) := by decide +kernel
theorem d_Model_come_11 : decode prog_9_method_19_code 11 = .ok (.iload_n 2, 1) := by decide +kernel
theorem d_Model_come_12 : decode prog_9_method_19_code 12 = .ok (.invokevirtual 134, 3) := by decide +kernel
theorem d_Model_come_15 : decode prog_9_method_19_code 15 = .ok (.ineg, 1) := by decide +kernel
theorem d_Model_come_16 : decode prog_9_method_19_code 16 = .ok (.ireturn, 1) := by decide +kernel
theorem d_Model_come_17 : decode prog_9_method_19_code 17 = .ok (.aload_n 0, 1) := by decide +kernel
theorem d_Model_come_18 : decode prog_9_method_19_code 18 = .ok (.dup, 1) := by decide +kernel
theorem d_Model_come_19 : decode prog_9_method_19_code 19 = .ok (.getfield 118, 3) := by decide +kernel
theorem d_Model_come_22 : decode prog_9_method_19_code 22 = .ok (.iconst 1, 1) := by decide +kernel
theorem d_Model_come_23 : decode prog_9_method_19_code 23 = .ok (.iadd, 1) := by decide +kernel
theorem d_Model_come_24 : decode prog_9_method_19_code 24 = .ok (.putfield 118, 3) := by decide +kernel
theorem d_Model_come_27 : decode prog_9_method_19_code 27 = .ok (.aload_n 0, 1) := by decide +kernel
theorem d_Model_come_28 : decode prog_9_method_19_code 28 = .ok (.getfield 118, 3) := by decide +kernel
theorem d_Model_come_31 : decode prog_9_method_19_code 31 = .ok (.istore 4, 2) := by decide +kernel
theorem d_Model_come_33 : decode prog_9_method_19_code 33 = .ok (.aload_n 0, 1) := by decide +kernel
theorem d_Model_come_34 : decode prog_9_method_19_code 34 = .ok (.getfield 38, 3) := by decide +kernel
theorem d_Model_come_37 : decode prog_9_method_19_code 37 = .ok (.iload 4, 2) := by decide +kernel
theorem d_Model_come_39 : decode prog_9_method_19_code 39 = .ok (.iload_n 1, 1) := by decide +kernel
theorem d_Model_come_40 : decode prog_9_method_19_code 40 = .ok (.iastore, 1) := by decide +kernel
theorem d_Model_come_41 : decode prog_9_method_19_code 41 = .ok (.aload_n 0, 1) := by decide +kernel
theorem d_Model_come_42 : decode prog_9_method_19_code 42 = .ok (.getfield 41, 3) := by decide +kernel
theorem d_Model_come_45 : decode prog_9_method_19_code 45 = .ok (.iload 4, 2) := by decide +kernel
theorem d_Model_come_47 : decode prog_9_method_19_code 47 = .ok (.iload_n 2, 1) := by decide +kernel
theorem d_Model_come_48 : decode prog_9_method_19_code 48 = .ok (.iastore, 1) := by decide +kernel
theorem d_Model_come_49 : decode prog_9_method_19_code 49 = .ok (.aload_n 0, 1) := by decide +kernel
theorem d_Model_come_50 : decode prog_9_method_19_code 50 = .ok (.getfield 44, 3) := by decide +kernel
theorem d_Model_come_53 : decode prog_9_method_19_code 53 = .ok (.iload 4, 2) := by decide +kernel
theorem d_Model_come_55 : decode prog_9_method_19_code 55 = .ok (.aload_n 0, 1) := by decide +kernel
theorem d_Model_come_56 : decode prog_9_method_19_code 56 = .ok (.getfield 138, 3) := by decide +kernel
theorem d_Model_come_59 : decode prog_9_method_19_code 59 = .ok (.iastore, 1) := by decide +kernel
theorem d_Model_come_60 : decode prog_9_method_19_code 60 = .ok (.aload_n 0, 1) := by decide +kernel
theorem d_Model_come_61 : decode prog_9_method_19_code 61 = .ok (.getfield 47, 3) := by decide +kernel
theorem d_Model_come_64 : decode prog_9_method_19_code 64 = .ok (.iload 4, 2) := by decide +kernel
theorem d_Model_come_66 : decode prog_9_method_19_code 66 = .ok (.iconst (-1), 1) := by decide +kernel
theorem d_Model_come_67 : decode prog_9_method_19_code 67 = .ok (.iastore, 1) := by decide +kernel
theorem d_Model_come_68 : decode prog_9_method_19_code 68 = .ok (.aload_n 0, 1) := by decide +kernel
theorem d_Model_come_69 : decode prog_9_method_19_code 69 = .ok (.getfield 53, 3) := by decide +kernel
theorem d_Model_come_72 : decode prog_9_method_19_code 72 = .ok (.iload 4, 2) := by decide +kernel
theorem d_Model_come_74 : decode prog_9_method_19_code 74 = .ok (.iconst 0, 1) := by decide +kernel
theorem d_Model_come_75 : decode prog_9_method_19_code 75 = .ok (.iastore, 1) := by decide +kernel
theorem d_Model_come_76 : decode prog_9_method_19_code 76 = .ok (.aload_n 0, 1) := by decide +kernel
theorem d_Model_come_77 : decode prog_9_method_19_code 77 = .ok (.getfield 56, 3) := by decide +kernel
theorem d_Model_come_80 : decode prog_9_method_19_code 80 = .ok (.iload 4, 2) := by decide +kernel
theorem d_Model_come_82 : decode prog_9_method_19_code 82 = .ok (.aload_n 0, 1) := by decide +kernel
theorem d_Model_come_83 : decode prog_9_method_19_code 83 = .ok (.getfield 29, 3) := by decide +kernel
theorem d_Model_come_86 : decode prog_9_method_19_code 86 = .ok (.iload_n 2, 1) := by decide +kernel
theorem d_Model_come_87 : decode prog_9_method_19_code 87 = .ok (.iaload, 1) := by decide +kernel
theorem d_Model_come_88 : decode prog_9_method_19_code 88 = .ok (.iastore, 1) := by decide +kernel
theorem d_Model_come_89 : decode prog_9_method_19_code 89 = .ok (.aload_n 0, 1) := by decide +kernel
theorem d_Model_come_90 : decode prog_9_method_19_code 90 = .ok (.getfield 59, 3) := by decide +kernel
theorem d_Model_come_93 : decode prog_9_method_19_code 93 = .ok (.iload 4, 2) := by decide +kernel
theorem d_Model_come_95 : decode prog_9_method_19_code 95 = .ok (.iload_n 3, 1) := by decide +kernel
theorem d_Model_come_96 : decode prog_9_method_19_code 96 = .ok (.bastore, 1) := by decide +kernel
theorem d_Model_come_97 : decode prog_9_method_19_code 97 = .ok (.aload_n 0, 1) := by decide +kernel
theorem d_Model_come_98 : decode prog_9_method_19_code 98 = .ok (.getfield 62, 3) := by decide +kernel
theorem d_Model_come_101 : decode prog_9_method_19_code 101 = .ok (.iload 4, 2) := by decide +kernel
theorem d_Model_come_103 : decode prog_9_method_19_code 103 = .ok (.aload_n 0, 1) := by decide +kernel
theorem d_Model_come_104 : decode prog_9_method_19_code 104 = .ok (.getfield 13, 3) := by decide +kernel
theorem d_Model_come_107 : decode prog_9_method_19_code 107 = .ok (.iload_n 1, 1) := by decide +kernel
theorem d_Model_come_108 : decode prog_9_method_19_code 108 = .ok (.iaload, 1) := by decide +kernel
theorem d_Model_come_109 : decode prog_9_method_19_code 109 = .ok (.iastore, 1) := by decide +kernel
theorem d_Model_come_110 : decode prog_9_method_19_code 110 = .ok (.aload_n 0, 1) := by decide +kernel
theorem d_Model_come_111 : decode prog_9_method_19_code 111 = .ok (.getfield 65, 3) := by decide +kernel
theorem d_Model_come_114 : decode prog_9_method_19_code 114 = .ok (.iload 4, 2) := by decide +kernel
theorem d_Model_come_116 : decode prog_9_method_19_code 116 = .ok (.iload_n 2, 1) := by decide +kernel
theorem d_Model_come_117 : decode prog_9_method_19_code 117 = .ok (.iconst 2, 1) := by decide +kernel
theorem d_Model_come_118 : decode prog_9_method_19_code 118 = .ok (.if_icmp .ne 12, 3) := by decide +kernel
theorem d_Model_come_121 : decode prog_9_method_19_code 121 = .ok (.aload_n 0, 1) := by decide +kernel
theorem d_Model_come_122 : decode prog_9_method_19_code 122 = .ok (.getfield 17, 3) := by decide +kernel
theorem d_Model_come_125 : decode prog_9_method_19_code 125 = .ok (.iload_n 1, 1) := by decide +kernel
theorem d_Model_come_126 : decode prog_9_method_19_code 126 = .ok (.iaload, 1) := by decide +kernel
theorem d_Model_come_127 : decode prog_9_method_19_code 127 = .ok (.goto 4, 3) := by decide +kernel
theorem d_Model_come_130 : decode prog_9_method_19_code 130 = .ok (.iconst (-1), 1) := by decide +kernel
theorem d_Model_come_131 : decode prog_9_method_19_code 131 = .ok (.iastore, 1) := by decide +kernel
theorem d_Model_come_132 : decode prog_9_method_19_code 132 = .ok (.iload_n 2, 1) := by decide +kernel
theorem d_Model_come_133 : decode prog_9_method_19_code 133 = .ok (.iconst 2, 1) := by decide +kernel
theorem d_Model_come_134 : decode prog_9_method_19_code 134 = .ok (.if_icmp .ne 10, 3) := by decide +kernel
theorem d_Model_come_137 : decode prog_9_method_19_code 137 = .ok (.aload_n 0, 1) := by decide +kernel
theorem d_Model_come_138 : decode prog_9_method_19_code 138 = .ok (.getfield 17, 3) := by decide +kernel
theorem d_Model_come_141 : decode prog_9_method_19_code 141 = .ok (.iload_n 1, 1) := by decide +kernel
theorem d_Model_come_142 : decode prog_9_method_19_code 142 = .ok (.iconst (-1), 1) := by decide +kernel
theorem d_Model_come_143 : decode prog_9_method_19_code 143 = .ok (.iastore, 1) := by decide +kernel
theorem d_Model_come_144 : decode prog_9_method_19_code 144 = .ok (.aload_n 0, 1) := by decide +kernel
theorem d_Model_come_145 : decode prog_9_method_19_code 145 = .ok (.getfield 32, 3) := by decide +kernel
theorem d_Model_come_148 : decode prog_9_method_19_code 148 = .ok (.iload_n 2, 1) := by decide +kernel
theorem d_Model_come_149 : decode prog_9_method_19_code 149 = .ok (.baload, 1) := by decide +kernel
theorem d_Model_come_150 : decode prog_9_method_19_code 150 = .ok (.ifCond .eq 10, 3) := by decide +kernel
theorem d_Model_come_153 : decode prog_9_method_19_code 153 = .ok (.aload_n 0, 1) := by decide +kernel
theorem d_Model_come_154 : decode prog_9_method_19_code 154 = .ok (.getfield 23, 3) := by decide +kernel
theorem d_Model_come_157 : decode prog_9_method_19_code 157 = .ok (.iload_n 1, 1) := by decide +kernel
theorem d_Model_come_158 : decode prog_9_method_19_code 158 = .ok (.iconst 1, 1) := by decide +kernel
theorem d_Model_come_159 : decode prog_9_method_19_code 159 = .ok (.bastore, 1) := by decide +kernel
theorem d_Model_come_160 : decode prog_9_method_19_code 160 = .ok (.iload_n 2, 1) := by decide +kernel
theorem d_Model_come_161 : decode prog_9_method_19_code 161 = .ok (.iconst 1, 1) := by decide +kernel
theorem d_Model_come_162 : decode prog_9_method_19_code 162 = .ok (.if_icmp .ne 23, 3) := by decide +kernel
theorem d_Model_come_165 : decode prog_9_method_19_code 165 = .ok (.aload_n 0, 1) := by decide +kernel
theorem d_Model_come_166 : decode prog_9_method_19_code 166 = .ok (.getfield 20, 3) := by decide +kernel
theorem d_Model_come_169 : decode prog_9_method_19_code 169 = .ok (.iload_n 1, 1) := by decide +kernel
theorem d_Model_come_170 : decode prog_9_method_19_code 170 = .ok (.iconst 2, 1) := by decide +kernel
theorem d_Model_come_171 : decode prog_9_method_19_code 171 = .ok (.iastore, 1) := by decide +kernel
theorem d_Model_come_172 : decode prog_9_method_19_code 172 = .ok (.aload_n 0, 1) := by decide +kernel
theorem d_Model_come_173 : decode prog_9_method_19_code 173 = .ok (.getfield 26, 3) := by decide +kernel
theorem d_Model_come_176 : decode prog_9_method_19_code 176 = .ok (.iload_n 1, 1) := by decide +kernel
theorem d_Model_come_177 : decode prog_9_method_19_code 177 = .ok (.aload_n 0, 1) := by decide +kernel
theorem d_Model_come_178 : decode prog_9_method_19_code 178 = .ok (.getfield 138, 3) := by decide +kernel
theorem d_Model_come_181 : decode prog_9_method_19_code 181 = .ok (.iastore, 1) := by decide +kernel
theorem d_Model_come_182 : decode prog_9_method_19_code 182 = .ok (.goto 19, 3) := by decide +kernel
theorem d_Model_come_185 : decode prog_9_method_19_code 185 = .ok (.aload_n 0, 1) := by decide +kernel
theorem d_Model_come_186 : decode prog_9_method_19_code 186 = .ok (.getfield 20, 3) := by decide +kernel
theorem d_Model_come_189 : decode prog_9_method_19_code 189 = .ok (.iload_n 1, 1) := by decide +kernel
theorem d_Model_come_190 : decode prog_9_method_19_code 190 = .ok (.iaload, 1) := by decide +kernel
theorem d_Model_come_191 : decode prog_9_method_19_code 191 = .ok (.ifCond .ne 10, 3) := by decide +kernel
theorem d_Model_come_194 : decode prog_9_method_19_code 194 = .ok (.aload_n 0, 1) := by decide +kernel
theorem d_Model_come_195 : decode prog_9_method_19_code 195 = .ok (.getfield 20, 3) := by decide +kernel
theorem d_Model_come_198 : decode prog_9_method_19_code 198 = .ok (.iload_n 1, 1) := by decide +kernel
theorem d_Model_come_199 : decode prog_9_method_19_code 199 = .ok (.iconst 1, 1) := by decide +kernel
theorem d_Model_come_200 : decode prog_9_method_19_code 200 = .ok (.iastore, 1) := by decide +kernel
theorem d_Model_come_201 : decode prog_9_method_19_code 201 = .ok (.aload_n 0, 1) := by decide +kernel
theorem d_Model_come_202 : decode prog_9_method_19_code 202 = .ok (.iload_n 1, 1) := by decide +kernel
theorem d_Model_come_203 : decode prog_9_method_19_code 203 = .ok (.iload_n 2, 1) := by decide +kernel
theorem d_Model_come_204 : decode prog_9_method_19_code 204 = .ok (.invokevirtual 141, 3) := by decide +kernel
theorem d_Model_come_207 : decode prog_9_method_19_code 207 = .ok (.istore 5, 2) := by decide +kernel
theorem d_Model_come_209 : decode prog_9_method_19_code 209 = .ok (.aload_n 0, 1) := by decide +kernel
theorem d_Model_come_210 : decode prog_9_method_19_code 210 = .ok (.getfield 50, 3) := by decide +kernel
theorem d_Model_come_213 : decode prog_9_method_19_code 213 = .ok (.iload 4, 2) := by decide +kernel
theorem d_Model_come_215 : decode prog_9_method_19_code 215 = .ok (.iload 5, 2) := by decide +kernel
theorem d_Model_come_217 : decode prog_9_method_19_code 217 = .ok (.iastore, 1) := by decide +kernel
theorem d_Model_come_218 : decode prog_9_method_19_code 218 = .ok (.aload_n 0, 1) := by decide +kernel
theorem d_Model_come_219 : decode prog_9_method_19_code 219 = .ok (.getfield 80, 3) := by decide +kernel
theorem d_Model_come_222 : decode prog_9_method_19_code 222 = .ok (.iload 5, 2) := by decide +kernel
theorem d_Model_come_224 : decode prog_9_method_19_code 224 = .ok (.dup2, 1) := by decide +kernel
theorem d_Model_come_225 : decode prog_9_method_19_code 225 = .ok (.iaload, 1) := by decide +kernel
theorem d_Model_come_226 : decode prog_9_method_19_code 226 = .ok (.iconst 1, 1) := by decide +kernel
theorem d_Model_come_227 : decode prog_9_method_19_code 227 = .ok (.iadd, 1) := by decide +kernel
theorem d_Model_come_228 : decode prog_9_method_19_code 228 = .ok (.iastore, 1) := by decide +kernel
theorem d_Model_come_229 : decode prog_9_method_19_code 229 = .ok (.aload_n 0, 1) := by decide +kernel
theorem d_Model_come_230 : decode prog_9_method_19_code 230 = .ok (.getfield 83, 3) := by decide +kernel
theorem d_Model_come_233 : decode prog_9_method_19_code 233 = .ok (.iload 5, 2) := by decide +kernel
theorem d_Model_come_235 : decode prog_9_method_19_code 235 = .ok (.iconst (-1), 1) := by decide +kernel
theorem d_Model_come_236 : decode prog_9_method_19_code 236 = .ok (.iastore, 1) := by decide +kernel
theorem d_Model_come_237 : decode prog_9_method_19_code 237 = .ok (.aload_n 0, 1) := by decide +kernel
theorem d_Model_come_238 : decode prog_9_method_19_code 238 = .ok (.getfield 86, 3) := by decide +kernel
theorem d_Model_come_241 : decode prog_9_method_19_code 241 = .ok (.iload 5, 2) := by decide +kernel
theorem d_Model_come_243 : decode prog_9_method_19_code 243 = .ok (.aload_n 0, 1) := by decide +kernel
theorem d_Model_come_244 : decode prog_9_method_19_code 244 = .ok (.getfield 138, 3) := by decide +kernel
theorem d_Model_come_247 : decode prog_9_method_19_code 247 = .ok (.iastore, 1) := by decide +kernel
theorem d_Model_come_248 : decode prog_9_method_19_code 248 = .ok (.aload_n 0, 1) := by decide +kernel
theorem d_Model_come_249 : decode prog_9_method_19_code 249 = .ok (.getfield 89, 3) := by decide +kernel
theorem d_Model_come_252 : decode prog_9_method_19_code 252 = .ok (.iload 5, 2) := by decide +kernel
theorem d_Model_come_254 : decode prog_9_method_19_code 254 = .ok (.iload 4, 2) := by decide +kernel
theorem d_Model_come_256 : decode prog_9_method_19_code 256 = .ok (.iastore, 1) := by decide +kernel
theorem d_Model_come_257 : decode prog_9_method_19_code 257 = .ok (.iload 4, 2) := by decide +kernel
theorem d_Model_come_259 : decode prog_9_method_19_code 259 = .ok (.ireturn, 1) := by decide +kernel
theorem d_Model_openOf_0 : decode prog_9_method_15_code 0 = .ok (.iconst 1, 1) := by decide +kernel
theorem d_Model_openOf_1 : decode prog_9_method_15_code 1 = .ok (.istore_n 3, 1) := by decide +kernel
theorem d_Model_openOf_2 : decode prog_9_method_15_code 2 = .ok (.iload_n 3, 1) := by decide +kernel
theorem d_Model_openOf_3 : decode prog_9_method_15_code 3 = .ok (.aload_n 0, 1) := by decide +kernel
theorem d_Model_openOf_4 : decode prog_9_method_15_code 4 = .ok (.getfield 118, 3) := by decide +kernel
theorem d_Model_openOf_7 : decode prog_9_method_15_code 7 = .ok (.if_icmp .gt 41, 3) := by decide +kernel
theorem d_Model_openOf_10 : decode prog_9_method_15_code 10 = .ok (.aload_n 0, 1) := by decide +kernel
theorem d_Model_openOf_11 : decode prog_9_method_15_code 11 = .ok (.getfield 38, 3) := by decide +kernel
theorem d_Model_openOf_14 : decode prog_9_method_15_code 14 = .ok (.iload_n 3, 1) := by decide +kernel
theorem d_Model_openOf_15 : decode prog_9_method_15_code 15 = .ok (.iaload, 1) := by decide +kernel
theorem d_Model_openOf_16 : decode prog_9_method_15_code 16 = .ok (.iload_n 1, 1) := by decide +kernel
theorem d_Model_openOf_17 : decode prog_9_method_15_code 17 = .ok (.if_icmp .ne 25, 3) := by decide +kernel
theorem d_Model_openOf_20 : decode prog_9_method_15_code 20 = .ok (.aload_n 0, 1) := by decide +kernel
theorem d_Model_openOf_21 : decode prog_9_method_15_code 21 = .ok (.getfield 41, 3) := by decide +kernel
theorem d_Model_openOf_24 : decode prog_9_method_15_code 24 = .ok (.iload_n 3, 1) := by decide +kernel
theorem d_Model_openOf_25 : decode prog_9_method_15_code 25 = .ok (.iaload, 1) := by decide +kernel
theorem d_Model_openOf_26 : decode prog_9_method_15_code 26 = .ok (.iload_n 2, 1) := by decide +kernel
theorem d_Model_openOf_27 : decode prog_9_method_15_code 27 = .ok (.if_icmp .ne 15, 3) := by decide +kernel
theorem d_Model_openOf_30 : decode prog_9_method_15_code 30 = .ok (.aload_n 0, 1) := by decide +kernel
theorem d_Model_openOf_31 : decode prog_9_method_15_code 31 = .ok (.getfield 47, 3) := by decide +kernel
theorem d_Model_openOf_34 : decode prog_9_method_15_code 34 = .ok (.iload_n 3, 1) := by decide +kernel
theorem d_Model_openOf_35 : decode prog_9_method_15_code 35 = .ok (.iaload, 1) := by decide +kernel
theorem d_Model_openOf_36 : decode prog_9_method_15_code 36 = .ok (.iconst (-1), 1) := by decide +kernel
theorem d_Model_openOf_37 : decode prog_9_method_15_code 37 = .ok (.if_icmp .ne 5, 3) := by decide +kernel
theorem d_Model_openOf_40 : decode prog_9_method_15_code 40 = .ok (.iload_n 3, 1) := by decide +kernel
theorem d_Model_openOf_41 : decode prog_9_method_15_code 41 = .ok (.ireturn, 1) := by decide +kernel
theorem d_Model_openOf_42 : decode prog_9_method_15_code 42 = .ok (.iinc 3 1, 3) := by decide +kernel
theorem d_Model_openOf_45 : decode prog_9_method_15_code 45 = .ok (.goto (-43), 3) := by decide +kernel
theorem d_Model_openOf_48 : decode prog_9_method_15_code 48 = .ok (.iconst 0, 1) := by decide +kernel
theorem d_Model_openOf_49 : decode prog_9_method_15_code 49 = .ok (.ireturn, 1) := by decide +kernel
theorem d_Model_alarmFor_0 : decode prog_9_method_17_code 0 = .ok (.aload_n 0, 1) := by decide +kernel
theorem d_Model_alarmFor_1 : decode prog_9_method_17_code 1 = .ok (.getfield 121, 3) := by decide +kernel
theorem d_Model_alarmFor_4 : decode prog_9_method_17_code 4 = .ok (.iconst 1, 1) := by decide +kernel
theorem d_Model_alarmFor_5 : decode prog_9_method_17_code 5 = .ok (.isub, 1) := by decide +kernel
theorem d_Model_alarmFor_6 : decode prog_9_method_17_code 6 = .ok (.istore_n 3, 1) := by decide +kernel
theorem d_Model_alarmFor_7 : decode prog_9_method_17_code 7 = .ok (.iload_n 3, 1) := by decide +kernel
theorem d_Model_alarmFor_8 : decode prog_9_method_17_code 8 = .ok (.ifCond .lt 29, 3) := by decide +kernel
theorem d_Model_alarmFor_11 : decode prog_9_method_17_code 11 = .ok (.aload_n 0, 1) := by decide +kernel
theorem d_Model_alarmFor_12 : decode prog_9_method_17_code 12 = .ok (.getfield 68, 3) := by decide +kernel
theorem d_Model_alarmFor_15 : decode prog_9_method_17_code 15 = .ok (.iload_n 3, 1) := by decide +kernel
theorem d_Model_alarmFor_16 : decode prog_9_method_17_code 16 = .ok (.iaload, 1) := by decide +kernel
theorem d_Model_alarmFor_17 : decode prog_9_method_17_code 17 = .ok (.iload_n 1, 1) := by decide +kernel
theorem d_Model_alarmFor_18 : decode prog_9_method_17_code 18 = .ok (.if_icmp .ne 13, 3) := by decide +kernel
theorem d_Model_alarmFor_21 : decode prog_9_method_17_code 21 = .ok (.aload_n 0, 1) := by decide +kernel
theorem d_Model_alarmFor_22 : decode prog_9_method_17_code 22 = .ok (.getfield 71, 3) := by decide +kernel
theorem d_Model_alarmFor_25 : decode prog_9_method_17_code 25 = .ok (.iload_n 3, 1) := by decide +kernel
theorem d_Model_alarmFor_26 : decode prog_9_method_17_code 26 = .ok (.iaload, 1) := by decide +kernel
theorem d_Model_alarmFor_27 : decode prog_9_method_17_code 27 = .ok (.iload_n 2, 1) := by decide +kernel
theorem d_Model_alarmFor_28 : decode prog_9_method_17_code 28 = .ok (.if_icmp .eq 9, 3) := by decide +kernel
theorem d_Model_alarmFor_31 : decode prog_9_method_17_code 31 = .ok (.iinc 3 (-1), 3) := by decide +kernel
theorem d_Model_alarmFor_34 : decode prog_9_method_17_code 34 = .ok (.goto (-27), 3) := by decide +kernel
theorem d_Model_alarmFor_37 : decode prog_9_method_17_code 37 = .ok (.iload_n 3, 1) := by decide +kernel
theorem d_Model_alarmFor_38 : decode prog_9_method_17_code 38 = .ok (.ifCond .lt 21, 3) := by decide +kernel
theorem d_Model_alarmFor_41 : decode prog_9_method_17_code 41 = .ok (.aload_n 0, 1) := by decide +kernel
theorem d_Model_alarmFor_42 : decode prog_9_method_17_code 42 = .ok (.getfield 138, 3) := by decide +kernel
theorem d_Model_alarmFor_45 : decode prog_9_method_17_code 45 = .ok (.aload_n 0, 1) := by decide +kernel
theorem d_Model_alarmFor_46 : decode prog_9_method_17_code 46 = .ok (.getfield 86, 3) := by decide +kernel
theorem d_Model_alarmFor_49 : decode prog_9_method_17_code 49 = .ok (.iload_n 3, 1) := by decide +kernel
theorem d_Model_alarmFor_50 : decode prog_9_method_17_code 50 = .ok (.iaload, 1) := by decide +kernel
theorem d_Model_alarmFor_51 : decode prog_9_method_17_code 51 = .ok (.isub, 1) := by decide +kernel
theorem d_Model_alarmFor_52 : decode prog_9_method_17_code 52 = .ok (.bipush 60, 2) := by decide +kernel
theorem d_Model_alarmFor_54 : decode prog_9_method_17_code 54 = .ok (.if_icmp .gt 5, 3) := by decide +kernel
theorem d_Model_alarmFor_57 : decode prog_9_method_17_code 57 = .ok (.iload_n 3, 1) := by decide +kernel
theorem d_Model_alarmFor_58 : decode prog_9_method_17_code 58 = .ok (.ireturn, 1) := by decide +kernel
theorem d_Model_alarmFor_59 : decode prog_9_method_17_code 59 = .ok (.aload_n 0, 1) := by decide +kernel
theorem d_Model_alarmFor_60 : decode prog_9_method_17_code 60 = .ok (.getfield 68, 3) := by decide +kernel
theorem d_Model_alarmFor_63 : decode prog_9_method_17_code 63 = .ok (.aload_n 0, 1) := by decide +kernel
theorem d_Model_alarmFor_64 : decode prog_9_method_17_code 64 = .ok (.getfield 121, 3) := by decide +kernel
theorem d_Model_alarmFor_67 : decode prog_9_method_17_code 67 = .ok (.iload_n 1, 1) := by decide +kernel
theorem d_Model_alarmFor_68 : decode prog_9_method_17_code 68 = .ok (.iastore, 1) := by decide +kernel
theorem d_Model_alarmFor_69 : decode prog_9_method_17_code 69 = .ok (.aload_n 0, 1) := by decide +kernel
theorem d_Model_alarmFor_70 : decode prog_9_method_17_code 70 = .ok (.getfield 71, 3) := by decide +kernel
theorem d_Model_alarmFor_73 : decode prog_9_method_17_code 73 = .ok (.aload_n 0, 1) := by decide +kernel
theorem d_Model_alarmFor_74 : decode prog_9_method_17_code 74 = .ok (.getfield 121, 3) := by decide +kernel
theorem d_Model_alarmFor_77 : decode prog_9_method_17_code 77 = .ok (.iload_n 2, 1) := by decide +kernel
theorem d_Model_alarmFor_78 : decode prog_9_method_17_code 78 = .ok (.iastore, 1) := by decide +kernel
theorem d_Model_alarmFor_79 : decode prog_9_method_17_code 79 = .ok (.aload_n 0, 1) := by decide +kernel
theorem d_Model_alarmFor_80 : decode prog_9_method_17_code 80 = .ok (.getfield 74, 3) := by decide +kernel
theorem d_Model_alarmFor_83 : decode prog_9_method_17_code 83 = .ok (.aload_n 0, 1) := by decide +kernel
theorem d_Model_alarmFor_84 : decode prog_9_method_17_code 84 = .ok (.getfield 121, 3) := by decide +kernel
theorem d_Model_alarmFor_87 : decode prog_9_method_17_code 87 = .ok (.aload_n 0, 1) := by decide +kernel
theorem d_Model_alarmFor_88 : decode prog_9_method_17_code 88 = .ok (.getfield 35, 3) := by decide +kernel
theorem d_Model_alarmFor_91 : decode prog_9_method_17_code 91 = .ok (.iload_n 2, 1) := by decide +kernel
theorem d_Model_alarmFor_92 : decode prog_9_method_17_code 92 = .ok (.iaload, 1) := by decide +kernel
theorem d_Model_alarmFor_93 : decode prog_9_method_17_code 93 = .ok (.iastore, 1) := by decide +kernel
theorem d_Model_alarmFor_94 : decode prog_9_method_17_code 94 = .ok (.aload_n 0, 1) := by decide +kernel
theorem d_Model_alarmFor_95 : decode prog_9_method_17_code 95 = .ok (.getfield 77, 3) := by decide +kernel
theorem d_Model_alarmFor_98 : decode prog_9_method_17_code 98 = .ok (.aload_n 0, 1) := by decide +kernel
theorem d_Model_alarmFor_99 : decode prog_9_method_17_code 99 = .ok (.getfield 121, 3) := by decide +kernel
theorem d_Model_alarmFor_102 : decode prog_9_method_17_code 102 = .ok (.iconst 0, 1) := by decide +kernel
theorem d_Model_alarmFor_103 : decode prog_9_method_17_code 103 = .ok (.iastore, 1) := by decide +kernel
theorem d_Model_alarmFor_104 : decode prog_9_method_17_code 104 = .ok (.aload_n 0, 1) := by decide +kernel
theorem d_Model_alarmFor_105 : decode prog_9_method_17_code 105 = .ok (.getfield 80, 3) := by decide +kernel
theorem d_Model_alarmFor_108 : decode prog_9_method_17_code 108 = .ok (.aload_n 0, 1) := by decide +kernel
theorem d_Model_alarmFor_109 : decode prog_9_method_17_code 109 = .ok (.getfield 121, 3) := by decide +kernel
theorem d_Model_alarmFor_112 : decode prog_9_method_17_code 112 = .ok (.iconst 0, 1) := by decide +kernel
theorem d_Model_alarmFor_113 : decode prog_9_method_17_code 113 = .ok (.iastore, 1) := by decide +kernel
theorem d_Model_alarmFor_114 : decode prog_9_method_17_code 114 = .ok (.aload_n 0, 1) := by decide +kernel
theorem d_Model_alarmFor_115 : decode prog_9_method_17_code 115 = .ok (.dup, 1) := by decide +kernel
theorem d_Model_alarmFor_116 : decode prog_9_method_17_code 116 = .ok (.getfield 121, 3) := by decide +kernel
theorem d_Model_alarmFor_119 : decode prog_9_method_17_code 119 = .ok (.iconst 1, 1) := by decide +kernel
theorem d_Model_alarmFor_120 : decode prog_9_method_17_code 120 = .ok (.iadd, 1) := by decide +kernel
theorem d_Model_alarmFor_121 : decode prog_9_method_17_code 121 = .ok (.putfield 121, 3) := by decide +kernel
theorem d_Model_alarmFor_124 : decode prog_9_method_17_code 124 = .ok (.aload_n 0, 1) := by decide +kernel
theorem d_Model_alarmFor_125 : decode prog_9_method_17_code 125 = .ok (.getfield 121, 3) := by decide +kernel
theorem d_Model_alarmFor_128 : decode prog_9_method_17_code 128 = .ok (.iconst 1, 1) := by decide +kernel
theorem d_Model_alarmFor_129 : decode prog_9_method_17_code 129 = .ok (.isub, 1) := by decide +kernel
theorem d_Model_alarmFor_130 : decode prog_9_method_17_code 130 = .ok (.ireturn, 1) := by decide +kernel
theorem d_Model_step_0 : decode prog_9_method_22_code 0 = .ok (.aload_n 0, 1) := by decide +kernel
theorem d_Model_step_1 : decode prog_9_method_22_code 1 = .ok (.aload_n 0, 1) := by decide +kernel
theorem d_Model_step_2 : decode prog_9_method_22_code 2 = .ok (.iload_n 1, 1) := by decide +kernel
theorem d_Model_step_3 : decode prog_9_method_22_code 3 = .ok (.invokevirtual 151, 3) := by decide +kernel
theorem d_Model_step_6 : decode prog_9_method_22_code 6 = .ok (.ifCond .ne 7, 3) := by decide +kernel
theorem d_Model_step_9 : decode prog_9_method_22_code 9 = .ok (.iconst 1, 1) := by decide +kernel
theorem d_Model_step_10 : decode prog_9_method_22_code 10 = .ok (.goto 18, 3) := by decide +kernel
theorem d_Model_step_13 : decode prog_9_method_22_code 13 = .ok (.iload_n 2, 1) := by decide +kernel
theorem d_Model_step_14 : decode prog_9_method_22_code 14 = .ok (.iconst 0, 1) := by decide +kernel
theorem d_Model_step_15 : decode prog_9_method_22_code 15 = .ok (.bipush 7, 2) := by decide +kernel
theorem d_Model_step_17 : decode prog_9_method_22_code 17 = .ok (.invokestatic 111, 3) := by decide +kernel
theorem d_Model_step_20 : decode prog_9_method_22_code 20 = .ok (.ifCond .ne 7, 3) := by decide +kernel
theorem d_Model_step_23 : decode prog_9_method_22_code 23 = .ok (.iconst 2, 1) := by decide +kernel
theorem d_Model_step_24 : decode prog_9_method_22_code 24 = .ok (.goto 4, 3) := by decide +kernel
theorem d_Model_step_27 : decode prog_9_method_22_code 27 = .ok (.iconst 0, 1) := by decide +kernel
theorem d_Model_step_28 : decode prog_9_method_22_code 28 = .ok (.putfield 104, 3) := by decide +kernel
theorem d_Model_step_31 : decode prog_9_method_22_code 31 = .ok (.aload_n 0, 1) := by decide +kernel
theorem d_Model_step_32 : decode prog_9_method_22_code 32 = .ok (.getfield 104, 3) := by decide +kernel
theorem d_Model_step_35 : decode prog_9_method_22_code 35 = .ok (.ifCond .ne 22, 3) := by decide +kernel
theorem d_Model_step_38 : decode prog_9_method_22_code 38 = .ok (.aload_n 0, 1) := by decide +kernel
theorem d_Model_step_39 : decode prog_9_method_22_code 39 = .ok (.aload_n 0, 1) := by decide +kernel
theorem d_Model_step_40 : decode prog_9_method_22_code 40 = .ok (.getfield 47, 3) := by decide +kernel
theorem d_Model_step_43 : decode prog_9_method_22_code 43 = .ok (.iload_n 1, 1) := by decide +kernel
theorem d_Model_step_44 : decode prog_9_method_22_code 44 = .ok (.iaload, 1) := by decide +kernel
theorem d_Model_step_45 : decode prog_9_method_22_code 45 = .ok (.iconst (-1), 1) := by decide +kernel
theorem d_Model_step_46 : decode prog_9_method_22_code 46 = .ok (.if_icmp .eq 7, 3) := by decide +kernel
theorem d_Model_step_49 : decode prog_9_method_22_code 49 = .ok (.iconst 3, 1) := by decide +kernel
theorem d_Model_step_50 : decode prog_9_method_22_code 50 = .ok (.goto 4, 3) := by decide +kernel
theorem d_Model_step_53 : decode prog_9_method_22_code 53 = .ok (.iconst 0, 1) := by decide +kernel
theorem d_Model_step_54 : decode prog_9_method_22_code 54 = .ok (.putfield 104, 3) := by decide +kernel
theorem d_Model_step_57 : decode prog_9_method_22_code 57 = .ok (.aload_n 0, 1) := by decide +kernel
theorem d_Model_step_58 : decode prog_9_method_22_code 58 = .ok (.getfield 104, 3) := by decide +kernel
theorem d_Model_step_61 : decode prog_9_method_22_code 61 = .ok (.ifCond .le 5, 3) := by decide +kernel
theorem d_Model_step_64 : decode prog_9_method_22_code 64 = .ok (.iconst 0, 1) := by decide +kernel
theorem d_Model_step_65 : decode prog_9_method_22_code 65 = .ok (.ireturn, 1) := by decide +kernel
theorem d_Model_step_66 : decode prog_9_method_22_code 66 = .ok (.aload_n 0, 1) := by decide +kernel
theorem d_Model_step_67 : decode prog_9_method_22_code 67 = .ok (.getfield 53, 3) := by decide +kernel
theorem d_Model_step_70 : decode prog_9_method_22_code 70 = .ok (.iload_n 1, 1) := by decide +kernel
theorem d_Model_step_71 : decode prog_9_method_22_code 71 = .ok (.iaload, 1) := by decide +kernel
theorem d_Model_step_72 : decode prog_9_method_22_code 72 = .ok (.iload_n 2, 1) := by decide +kernel
theorem d_Model_step_73 : decode prog_9_method_22_code 73 = .ok (.ishr, 1) := by decide +kernel
theorem d_Model_step_74 : decode prog_9_method_22_code 74 = .ok (.iconst 1, 1) := by decide +kernel
theorem d_Model_step_75 : decode prog_9_method_22_code 75 = .ok (.iand, 1) := by decide +kernel
theorem d_Model_step_76 : decode prog_9_method_22_code 76 = .ok (.iconst 1, 1) := by decide +kernel
theorem d_Model_step_77 : decode prog_9_method_22_code 77 = .ok (.if_icmp .ne 5, 3) := by decide +kernel
theorem d_Model_step_80 : decode prog_9_method_22_code 80 = .ok (.iconst 2, 1) := by decide +kernel
theorem d_Model_step_81 : decode prog_9_method_22_code 81 = .ok (.ireturn, 1) := by decide +kernel
theorem d_Model_step_82 : decode prog_9_method_22_code 82 = .ok (.aload_n 0, 1) := by decide +kernel
theorem d_Model_step_83 : decode prog_9_method_22_code 83 = .ok (.getfield 53, 3) := by decide +kernel
theorem d_Model_step_86 : decode prog_9_method_22_code 86 = .ok (.iload_n 1, 1) := by decide +kernel
theorem d_Model_step_87 : decode prog_9_method_22_code 87 = .ok (.dup2, 1) := by decide +kernel
theorem d_Model_step_88 : decode prog_9_method_22_code 88 = .ok (.iaload, 1) := by decide +kernel
theorem d_Model_step_89 : decode prog_9_method_22_code 89 = .ok (.iconst 1, 1) := by decide +kernel
theorem d_Model_step_90 : decode prog_9_method_22_code 90 = .ok (.iload_n 2, 1) := by decide +kernel
theorem d_Model_step_91 : decode prog_9_method_22_code 91 = .ok (.ishl, 1) := by decide +kernel
theorem d_Model_step_92 : decode prog_9_method_22_code 92 = .ok (.ior, 1) := by decide +kernel
theorem d_Model_step_93 : decode prog_9_method_22_code 93 = .ok (.iastore, 1) := by decide +kernel
theorem d_Model_step_94 : decode prog_9_method_22_code 94 = .ok (.aload_n 0, 1) := by decide +kernel
theorem d_Model_step_95 : decode prog_9_method_22_code 95 = .ok (.getfield 53, 3) := by decide +kernel
theorem d_Model_step_98 : decode prog_9_method_22_code 98 = .ok (.iload_n 1, 1) := by decide +kernel
theorem d_Model_step_99 : decode prog_9_method_22_code 99 = .ok (.iaload, 1) := by decide +kernel
theorem d_Model_step_100 : decode prog_9_method_22_code 100 = .ok (.invokestatic 154, 3) := by decide +kernel
theorem d_Model_step_103 : decode prog_9_method_22_code 103 = .ok (.aload_n 0, 1) := by decide +kernel
theorem d_Model_step_104 : decode prog_9_method_22_code 104 = .ok (.getfield 56, 3) := by decide +kernel
theorem d_Model_step_107 : decode prog_9_method_22_code 107 = .ok (.iload_n 1, 1) := by decide +kernel
theorem d_Model_step_108 : decode prog_9_method_22_code 108 = .ok (.iaload, 1) := by decide +kernel
theorem d_Model_step_109 : decode prog_9_method_22_code 109 = .ok (.if_icmp .ge 5, 3) := by decide +kernel
theorem d_Model_step_112 : decode prog_9_method_22_code 112 = .ok (.iconst 0, 1) := by decide +kernel
theorem d_Model_step_113 : decode prog_9_method_22_code 113 = .ok (.ireturn, 1) := by decide +kernel
theorem d_Model_step_114 : decode prog_9_method_22_code 114 = .ok (.aload_n 0, 1) := by decide +kernel
theorem d_Model_step_115 : decode prog_9_method_22_code 115 = .ok (.getfield 47, 3) := by decide +kernel
theorem d_Model_step_118 : decode prog_9_method_22_code 118 = .ok (.iload_n 1, 1) := by decide +kernel
theorem d_Model_step_119 : decode prog_9_method_22_code 119 = .ok (.aload_n 0, 1) := by decide +kernel
theorem d_Model_step_120 : decode prog_9_method_22_code 120 = .ok (.getfield 138, 3) := by decide +kernel
theorem d_Model_step_123 : decode prog_9_method_22_code 123 = .ok (.iastore, 1) := by decide +kernel
theorem d_Model_step_124 : decode prog_9_method_22_code 124 = .ok (.iconst 1, 1) := by decide +kernel
theorem d_Model_step_125 : decode prog_9_method_22_code 125 = .ok (.ireturn, 1) := by decide +kernel
theorem d_Model_isFault_0 : decode prog_9_method_6_code 0 = .ok (.iload_n 1, 1) := by decide +kernel
theorem d_Model_isFault_1 : decode prog_9_method_6_code 1 = .ok (.iconst 1, 1) := by decide +kernel
theorem d_Model_isFault_2 : decode prog_9_method_6_code 2 = .ok (.aload_n 0, 1) := by decide +kernel
theorem d_Model_isFault_3 : decode prog_9_method_6_code 3 = .ok (.getfield 118, 3) := by decide +kernel
theorem d_Model_isFault_6 : decode prog_9_method_6_code 6 = .ok (.invokestatic 111, 3) := by decide +kernel
theorem d_Model_isFault_9 : decode prog_9_method_6_code 9 = .ok (.ireturn, 1) := by decide +kernel
theorem d_Model_bits_0 : decode prog_9_method_21_code 0 = .ok (.iconst 0, 1) := by decide +kernel
theorem d_Model_bits_1 : decode prog_9_method_21_code 1 = .ok (.istore_n 1, 1) := by decide +kernel
theorem d_Model_bits_2 : decode prog_9_method_21_code 2 = .ok (.iconst 0, 1) := by decide +kernel
theorem d_Model_bits_3 : decode prog_9_method_21_code 3 = .ok (.istore_n 2, 1) := by decide +kernel
theorem d_Model_bits_4 : decode prog_9_method_21_code 4 = .ok (.iload_n 2, 1) := by decide +kernel
