/-! decode rows: printed by wip/gen/names.py -/
theorem d_RF_alarm_52 : decode prog_1_method_18_code 52 = .ok (.getfield 83, 3) := by decide +kernel
theorem d_RF_alarm_55 : decode prog_1_method_18_code 55 = .ok (.ireturn, 1) := by decide +kernel
theorem d_RF_alarm_56 : decode prog_1_method_18_code 56 = .ok (.aload_n 3, 1) := by decide +kernel
theorem d_RF_alarm_57 : decode prog_1_method_18_code 57 = .ok (.getfield 239, 3) := by decide +kernel
theorem d_RF_alarm_60 : decode prog_1_method_18_code 60 = .ok (.ireturn, 1) := by decide +kernel
theorem d_RF_alarm_61 : decode prog_1_method_18_code 61 = .ok (.aload_n 3, 1) := by decide +kernel
theorem d_RF_alarm_62 : decode prog_1_method_18_code 62 = .ok (.getfield 242, 3) := by decide +kernel
theorem d_RF_alarm_65 : decode prog_1_method_18_code 65 = .ok (.ireturn, 1) := by decide +kernel
theorem d_RF_alarm_66 : decode prog_1_method_18_code 66 = .ok (.aload_n 3, 1) := by decide +kernel
theorem d_RF_alarm_67 : decode prog_1_method_18_code 67 = .ok (.getfield 232, 3) := by decide +kernel
theorem d_RF_alarm_70 : decode prog_1_method_18_code 70 = .ok (.ireturn, 1) := by decide +kernel
theorem d_RF_alarm_71 : decode prog_1_method_18_code 71 = .ok (.aload_n 3, 1) := by decide +kernel
theorem d_RF_alarm_72 : decode prog_1_method_18_code 72 = .ok (.getfield 245, 3) := by decide +kernel
theorem d_RF_alarm_75 : decode prog_1_method_18_code 75 = .ok (.ireturn, 1) := by decide +kernel
theorem d_RF_alarm_76 : decode prog_1_method_18_code 76 = .ok (.aload_n 3, 1) := by decide +kernel
theorem d_RF_alarm_77 : decode prog_1_method_18_code 77 = .ok (.getfield 229, 3) := by decide +kernel
theorem d_RF_alarm_80 : decode prog_1_method_18_code 80 = .ok (.ireturn, 1) := by decide +kernel
theorem d_RF_alarm_81 : decode prog_1_method_18_code 81 = .ok (.aload_n 3, 1) := by decide +kernel
theorem d_RF_alarm_82 : decode prog_1_method_18_code 82 = .ok (.getfield 248, 3) := by decide +kernel
theorem d_RF_alarm_85 : decode prog_1_method_18_code 85 = .ok (.getfield 252, 3) := by decide +kernel
theorem d_RF_alarm_88 : decode prog_1_method_18_code 88 = .ok (.ireturn, 1) := by decide +kernel
theorem d_RF_alarm_89 : decode prog_1_method_18_code 89 = .ok (.new 66, 3) := by decide +kernel
theorem d_RF_alarm_92 : decode prog_1_method_18_code 92 = .ok (.dup, 1) := by decide +kernel
theorem d_RF_alarm_93 : decode prog_1_method_18_code 93 = .ok (.ldc 255, 2) := by decide +kernel
theorem d_RF_alarm_95 : decode prog_1_method_18_code 95 = .ok (.invokespecial 70, 3) := by decide +kernel
theorem d_RF_alarm_98 : decode prog_1_method_18_code 98 = .ok (.athrow, 1) := by decide +kernel
theorem d_Law_known_0 : decode method_20_code 0 = .ok (.aload_n 3, 1) := by decide +kernel
theorem d_Law_known_1 : decode method_20_code 1 = .ok (.iconst 0, 1) := by decide +kernel
theorem d_Law_known_2 : decode method_20_code 2 = .ok (.aload_n 0, 1) := by decide +kernel
theorem d_Law_known_3 : decode method_20_code 3 = .ok (.iload_n 1, 1) := by decide +kernel
theorem d_Law_known_4 : decode method_20_code 4 = .ok (.iload_n 2, 1) := by decide +kernel
theorem d_Law_known_5 : decode method_20_code 5 = .ok (.invokevirtual 75, 3) := by decide +kernel
theorem d_Law_known_8 : decode method_20_code 8 = .ok (.i2l, 1) := by decide +kernel
theorem d_Law_known_9 : decode method_20_code 9 = .ok (.lastore, 1) := by decide +kernel
theorem d_Law_known_10 : decode method_20_code 10 = .ok (.goto 11, 3) := by decide +kernel
theorem d_Law_known_13 : decode method_20_code 13 = .ok (.astore 4, 2) := by decide +kernel
theorem d_Law_known_15 : decode method_20_code 15 = .ok (.iconst 1, 1) := by decide +kernel
theorem d_Law_known_16 : decode method_20_code 16 = .ok (.ireturn, 1) := by decide +kernel
theorem d_Law_known_17 : decode method_20_code 17 = .ok (.astore 4, 2) := by decide +kernel
theorem d_Law_known_19 : decode method_20_code 19 = .ok (.iconst 2, 1) := by decide +kernel
theorem d_Law_known_20 : decode method_20_code 20 = .ok (.ireturn, 1) := by decide +kernel
theorem d_Law_known_21 : decode method_20_code 21 = .ok (.iconst 0, 1) := by decide +kernel
theorem d_Law_known_22 : decode method_20_code 22 = .ok (.ireturn, 1) := by decide +kernel
theorem d_RF_known_0 : decode prog_1_method_19_code 0 = .ok (.aload_n 0, 1) := by decide +kernel
theorem d_RF_known_1 : decode prog_1_method_19_code 1 = .ok (.iload_n 1, 1) := by decide +kernel
theorem d_RF_known_2 : decode prog_1_method_19_code 2 = .ok (.invokevirtual 140, 3) := by decide +kernel
theorem d_RF_known_5 : decode prog_1_method_19_code 5 = .ok (.astore_n 3, 1) := by decide +kernel
theorem d_RF_known_6 : decode prog_1_method_19_code 6 = .ok (.iload_n 2, 1) := by decide +kernel
theorem d_RF_known_7 : decode prog_1_method_19_code 7 = .ok (.tableswitch 105 0 8 #[49, 57, 62, 67, 72, 77, 82, 95, 100], 49) := by decide +kernel
theorem d_RF_known_56 : decode prog_1_method_19_code 56 = .ok (.aload_n 3, 1) := by decide +kernel
theorem d_RF_known_57 : decode prog_1_method_19_code 57 = .ok (.getfield 257, 3) := by decide +kernel
theorem d_RF_known_60 : decode prog_1_method_19_code 60 = .ok (.getfield 83, 3) := by decide +kernel
theorem d_RF_known_63 : decode prog_1_method_19_code 63 = .ok (.ireturn, 1) := by decide +kernel
theorem d_RF_known_64 : decode prog_1_method_19_code 64 = .ok (.aload_n 3, 1) := by decide +kernel
theorem d_RF_known_65 : decode prog_1_method_19_code 65 = .ok (.getfield 258, 3) := by decide +kernel
theorem d_RF_known_68 : decode prog_1_method_19_code 68 = .ok (.ireturn, 1) := by decide +kernel
theorem d_RF_known_69 : decode prog_1_method_19_code 69 = .ok (.aload_n 3, 1) := by decide +kernel
theorem d_RF_known_70 : decode prog_1_method_19_code 70 = .ok (.getfield 252, 3) := by decide +kernel
theorem d_RF_known_73 : decode prog_1_method_19_code 73 = .ok (.ireturn, 1) := by decide +kernel
theorem d_RF_known_74 : decode prog_1_method_19_code 74 = .ok (.aload_n 3, 1) := by decide +kernel
theorem d_RF_known_75 : decode prog_1_method_19_code 75 = .ok (.getfield 259, 3) := by decide +kernel
theorem d_RF_known_78 : decode prog_1_method_19_code 78 = .ok (.ireturn, 1) := by decide +kernel
theorem d_RF_known_79 : decode prog_1_method_19_code 79 = .ok (.aload_n 3, 1) := by decide +kernel
theorem d_RF_known_80 : decode prog_1_method_19_code 80 = .ok (.getfield 262, 3) := by decide +kernel
theorem d_RF_known_83 : decode prog_1_method_19_code 83 = .ok (.ireturn, 1) := by decide +kernel
theorem d_RF_known_84 : decode prog_1_method_19_code 84 = .ok (.aload_n 3, 1) := by decide +kernel
theorem d_RF_known_85 : decode prog_1_method_19_code 85 = .ok (.getfield 152, 3) := by decide +kernel
theorem d_RF_known_88 : decode prog_1_method_19_code 88 = .ok (.ireturn, 1) := by decide +kernel
theorem d_RF_known_89 : decode prog_1_method_19_code 89 = .ok (.aload_n 3, 1) := by decide +kernel
theorem d_RF_known_90 : decode prog_1_method_19_code 90 = .ok (.getfield 265, 3) := by decide +kernel
theorem d_RF_known_93 : decode prog_1_method_19_code 93 = .ok (.ifCond .eq 7, 3) := by decide +kernel
theorem d_RF_known_96 : decode prog_1_method_19_code 96 = .ok (.iconst 1, 1) := by decide +kernel
theorem d_RF_known_97 : decode prog_1_method_19_code 97 = .ok (.goto 4, 3) := by decide +kernel
theorem d_RF_known_100 : decode prog_1_method_19_code 100 = .ok (.iconst 0, 1) := by decide +kernel
theorem d_RF_known_101 : decode prog_1_method_19_code 101 = .ok (.ireturn, 1) := by decide +kernel
theorem d_RF_known_102 : decode prog_1_method_19_code 102 = .ok (.aload_n 3, 1) := by decide +kernel
theorem d_RF_known_103 : decode prog_1_method_19_code 103 = .ok (.getfield 268, 3) := by decide +kernel
theorem d_RF_known_106 : decode prog_1_method_19_code 106 = .ok (.ireturn, 1) := by decide +kernel
theorem d_RF_known_107 : decode prog_1_method_19_code 107 = .ok (.aload_n 3, 1) := by decide +kernel
theorem d_RF_known_108 : decode prog_1_method_19_code 108 = .ok (.getfield 269, 3) := by decide +kernel
theorem d_RF_known_111 : decode prog_1_method_19_code 111 = .ok (.ireturn, 1) := by decide +kernel
theorem d_RF_known_112 : decode prog_1_method_19_code 112 = .ok (.new 66, 3) := by decide +kernel
theorem d_RF_known_115 : decode prog_1_method_19_code 115 = .ok (.dup, 1) := by decide +kernel
theorem d_RF_known_116 : decode prog_1_method_19_code 116 = .ok (.ldc_w 272, 3) := by decide +kernel
theorem d_RF_known_119 : decode prog_1_method_19_code 119 = .ok (.invokespecial 70, 3) := by decide +kernel
theorem d_RF_known_122 : decode prog_1_method_19_code 122 = .ok (.athrow, 1) := by decide +kernel
theorem d_Law_told_0 : decode method_21_code 0 = .ok (.aload_n 3, 1) := by decide +kernel
theorem d_Law_told_1 : decode method_21_code 1 = .ok (.iconst 0, 1) := by decide +kernel
theorem d_Law_told_2 : decode method_21_code 2 = .ok (.aload_n 0, 1) := by decide +kernel
theorem d_Law_told_3 : decode method_21_code 3 = .ok (.iload_n 1, 1) := by decide +kernel
theorem d_Law_told_4 : decode method_21_code 4 = .ok (.iload_n 2, 1) := by decide +kernel
theorem d_Law_told_5 : decode method_21_code 5 = .ok (.invokevirtual 78, 3) := by decide +kernel
theorem d_Law_told_8 : decode method_21_code 8 = .ok (.i2l, 1) := by decide +kernel
theorem d_Law_told_9 : decode method_21_code 9 = .ok (.lastore, 1) := by decide +kernel
theorem d_Law_told_10 : decode method_21_code 10 = .ok (.goto 11, 3) := by decide +kernel
theorem d_Law_told_13 : decode method_21_code 13 = .ok (.astore 4, 2) := by decide +kernel
theorem d_Law_told_15 : decode method_21_code 15 = .ok (.iconst 1, 1) := by decide +kernel
theorem d_Law_told_16 : decode method_21_code 16 = .ok (.ireturn, 1) := by decide +kernel
theorem d_Law_told_17 : decode method_21_code 17 = .ok (.astore 4, 2) := by decide +kernel
theorem d_Law_told_19 : decode method_21_code 19 = .ok (.iconst 2, 1) := by decide +kernel
theorem d_Law_told_20 : decode method_21_code 20 = .ok (.ireturn, 1) := by decide +kernel
theorem d_Law_told_21 : decode method_21_code 21 = .ok (.iconst 0, 1) := by decide +kernel
theorem d_Law_told_22 : decode method_21_code 22 = .ok (.ireturn, 1) := by decide +kernel
theorem d_RF_told_0 : decode prog_1_method_20_code 0 = .ok (.aload_n 0, 1) := by decide +kernel
theorem d_RF_told_1 : decode prog_1_method_20_code 1 = .ok (.iload_n 1, 1) := by decide +kernel
theorem d_RF_told_2 : decode prog_1_method_20_code 2 = .ok (.invokevirtual 97, 3) := by decide +kernel
theorem d_RF_told_5 : decode prog_1_method_20_code 5 = .ok (.astore_n 3, 1) := by decide +kernel
theorem d_RF_told_6 : decode prog_1_method_20_code 6 = .ok (.iload_n 2, 1) := by decide +kernel
theorem d_RF_told_7 : decode prog_1_method_20_code 7 = .ok (.tableswitch 67 0 4 #[33, 38, 43, 48, 54], 33) := by decide +kernel
theorem d_RF_told_40 : decode prog_1_method_20_code 40 = .ok (.aload_n 3, 1) := by decide +kernel
theorem d_RF_told_41 : decode prog_1_method_20_code 41 = .ok (.getfield 101, 3) := by decide +kernel
theorem d_RF_told_44 : decode prog_1_method_20_code 44 = .ok (.ireturn, 1) := by decide +kernel
theorem d_RF_told_45 : decode prog_1_method_20_code 45 = .ok (.aload_n 3, 1) := by decide +kernel
theorem d_RF_told_46 : decode prog_1_method_20_code 46 = .ok (.getfield 109, 3) := by decide +kernel
theorem d_RF_told_49 : decode prog_1_method_20_code 49 = .ok (.ireturn, 1) := by decide +kernel
theorem d_RF_told_50 : decode prog_1_method_20_code 50 = .ok (.aload_n 3, 1) := by decide +kernel
theorem d_RF_told_51 : decode prog_1_method_20_code 51 = .ok (.getfield 122, 3) := by decide +kernel
theorem d_RF_told_54 : decode prog_1_method_20_code 54 = .ok (.ireturn, 1) := by decide +kernel
theorem d_RF_told_55 : decode prog_1_method_20_code 55 = .ok (.aload_n 0, 1) := by decide +kernel
theorem d_RF_told_56 : decode prog_1_method_20_code 56 = .ok (.aload_n 3, 1) := by decide +kernel
theorem d_RF_told_57 : decode prog_1_method_20_code 57 = .ok (.invokevirtual 166, 3) := by decide +kernel
theorem d_RF_told_60 : decode prog_1_method_20_code 60 = .ok (.ireturn, 1) := by decide +kernel
theorem d_RF_told_61 : decode prog_1_method_20_code 61 = .ok (.aload_n 3, 1) := by decide +kernel
theorem d_RF_told_62 : decode prog_1_method_20_code 62 = .ok (.getfield 172, 3) := by decide +kernel
theorem d_RF_told_65 : decode prog_1_method_20_code 65 = .ok (.ifCond .eq 7, 3) := by decide +kernel
theorem d_RF_told_68 : decode prog_1_method_20_code 68 = .ok (.iconst 1, 1) := by decide +kernel
theorem d_RF_told_69 : decode prog_1_method_20_code 69 = .ok (.goto 4, 3) := by decide +kernel
theorem d_RF_told_72 : decode prog_1_method_20_code 72 = .ok (.iconst 0, 1) := by decide +kernel
theorem d_RF_told_73 : decode prog_1_method_20_code 73 = .ok (.ireturn, 1) := by decide +kernel
theorem d_RF_told_74 : decode prog_1_method_20_code 74 = .ok (.new 66, 3) := by decide +kernel
theorem d_RF_told_77 : decode prog_1_method_20_code 77 = .ok (.dup, 1) := by decide +kernel
theorem d_RF_told_78 : decode prog_1_method_20_code 78 = .ok (.ldc_w 274, 3) := by decide +kernel
theorem d_RF_told_81 : decode prog_1_method_20_code 81 = .ok (.invokespecial 70, 3) := by decide +kernel
theorem d_RF_told_84 : decode prog_1_method_20_code 84 = .ok (.athrow, 1) := by decide +kernel
theorem d_Model_init_0 : decode prog_9_method_1_code 0 = .ok (.aload_n 0, 1) := by decide +kernel
theorem d_Model_init_1 : decode prog_9_method_1_code 1 = .ok (.invokespecial 1, 3) := by decide +kernel
theorem d_Model_init_4 : decode prog_9_method_1_code 4 = .ok (.aload_n 0, 1) := by decide +kernel
theorem d_Model_init_5 : decode prog_9_method_1_code 5 = .ok (.sipush 400, 3) := by decide +kernel
theorem d_Model_init_8 : decode prog_9_method_1_code 8 = .ok (.newarray .boolean, 2) := by decide +kernel
theorem d_Model_init_10 : decode prog_9_method_1_code 10 = .ok (.putfield 7, 3) := by decide +kernel
theorem d_Model_init_13 : decode prog_9_method_1_code 13 = .ok (.aload_n 0, 1) := by decide +kernel
theorem d_Model_init_14 : decode prog_9_method_1_code 14 = .ok (.bipush 8, 2) := by decide +kernel
theorem d_Model_init_16 : decode prog_9_method_1_code 16 = .ok (.newarray .int, 2) := by decide +kernel
theorem d_Model_init_18 : decode prog_9_method_1_code 18 = .ok (.putfield 13, 3) := by decide +kernel
theorem d_Model_init_21 : decode prog_9_method_1_code 21 = .ok (.aload_n 0, 1) := by decide +kernel
theorem d_Model_init_22 : decode prog_9_method_1_code 22 = .ok (.bipush 8, 2) := by decide +kernel
theorem d_Model_init_24 : decode prog_9_method_1_code 24 = .ok (.newarray .int, 2) := by decide +kernel
theorem d_Model_init_26 : decode prog_9_method_1_code 26 = .ok (.putfield 17, 3) := by decide +kernel
theorem d_Model_init_29 : decode prog_9_method_1_code 29 = .ok (.aload_n 0, 1) := by decide +kernel
theorem d_Model_init_30 : decode prog_9_method_1_code 30 = .ok (.bipush 8, 2) := by decide +kernel
theorem d_Model_init_32 : decode prog_9_method_1_code 32 = .ok (.newarray .int, 2) := by decide +kernel
theorem d_Model_init_34 : decode prog_9_method_1_code 34 = .ok (.putfield 20, 3) := by decide +kernel
theorem d_Model_init_37 : decode prog_9_method_1_code 37 = .ok (.aload_n 0, 1) := by decide +kernel
theorem d_Model_init_38 : decode prog_9_method_1_code 38 = .ok (.bipush 8, 2) := by decide +kernel
theorem d_Model_init_40 : decode prog_9_method_1_code 40 = .ok (.newarray .boolean, 2) := by decide +kernel
theorem d_Model_init_42 : decode prog_9_method_1_code 42 = .ok (.putfield 23, 3) := by decide +kernel
theorem d_Model_init_45 : decode prog_9_method_1_code 45 = .ok (.aload_n 0, 1) := by decide +kernel
theorem d_Model_init_46 : decode prog_9_method_1_code 46 = .ok (.bipush 8, 2) := by decide +kernel
theorem d_Model_init_48 : decode prog_9_method_1_code 48 = .ok (.newarray .int, 2) := by decide +kernel
theorem d_Model_init_50 : decode prog_9_method_1_code 50 = .ok (.putfield 26, 3) := by decide +kernel
theorem d_Model_init_53 : decode prog_9_method_1_code 53 = .ok (.aload_n 0, 1) := by decide +kernel
theorem d_Model_init_54 : decode prog_9_method_1_code 54 = .ok (.bipush 8, 2) := by decide +kernel
theorem d_Model_init_56 : decode prog_9_method_1_code 56 = .ok (.newarray .int, 2) := by decide +kernel
theorem d_Model_init_58 : decode prog_9_method_1_code 58 = .ok (.dup, 1) := by decide +kernel
theorem d_Model_init_59 : decode prog_9_method_1_code 59 = .ok (.iconst 0, 1) := by decide +kernel
theorem d_Model_init_60 : decode prog_9_method_1_code 60 = .ok (.iconst 1, 1) := by decide +kernel
theorem d_Model_init_61 : decode prog_9_method_1_code 61 = .ok (.iastore, 1) := by decide +kernel
theorem d_Model_init_62 : decode prog_9_method_1_code 62 = .ok (.dup, 1) := by decide +kernel
theorem d_Model_init_63 : decode prog_9_method_1_code 63 = .ok (.iconst 1, 1) := by decide +kernel
theorem d_Model_init_64 : decode prog_9_method_1_code 64 = .ok (.iconst 1, 1) := by decide +kernel
theorem d_Model_init_65 : decode prog_9_method_1_code 65 = .ok (.iastore, 1) := by decide +kernel
theorem d_Model_init_66 : decode prog_9_method_1_code 66 = .ok (.dup, 1) := by decide +kernel
theorem d_Model_init_67 : decode prog_9_method_1_code 67 = .ok (.iconst 2, 1) := by decide +kernel
theorem d_Model_init_68 : decode prog_9_method_1_code 68 = .ok (.iconst 1, 1) := by decide +kernel
theorem d_Model_init_69 : decode prog_9_method_1_code 69 = .ok (.iastore, 1) := by decide +kernel
theorem d_Model_init_70 : decode prog_9_method_1_code 70 = .ok (.dup, 1) := by decide +kernel
theorem d_Model_init_71 : decode prog_9_method_1_code 71 = .ok (.iconst 3, 1) := by decide +kernel
theorem d_Model_init_72 : decode prog_9_method_1_code 72 = .ok (.iconst 1, 1) := by decide +kernel
theorem d_Model_init_73 : decode prog_9_method_1_code 73 = .ok (.iastore, 1) := by decide +kernel
theorem d_Model_init_74 : decode prog_9_method_1_code 74 = .ok (.dup, 1) := by decide +kernel
theorem d_Model_init_75 : decode prog_9_method_1_code 75 = .ok (.iconst 4, 1) := by decide +kernel
theorem d_Model_init_76 : decode prog_9_method_1_code 76 = .ok (.iconst 1, 1) := by decide +kernel
theorem d_Model_init_77 : decode prog_9_method_1_code 77 = .ok (.iastore, 1) := by decide +kernel
theorem d_Model_init_78 : decode prog_9_method_1_code 78 = .ok (.dup, 1) := by decide +kernel
theorem d_Model_init_79 : decode prog_9_method_1_code 79 = .ok (.iconst 5, 1) := by decide +kernel
theorem d_Model_init_80 : decode prog_9_method_1_code 80 = .ok (.iconst 1, 1) := by decide +kernel
theorem d_Model_init_81 : decode prog_9_method_1_code 81 = .ok (.iastore, 1) := by decide +kernel
theorem d_Model_init_82 : decode prog_9_method_1_code 82 = .ok (.dup, 1) := by decide +kernel
theorem d_Model_init_83 : decode prog_9_method_1_code 83 = .ok (.bipush 6, 2) := by decide +kernel
theorem d_Model_init_85 : decode prog_9_method_1_code 85 = .ok (.iconst 1, 1) := by decide +kernel
theorem d_Model_init_86 : decode prog_9_method_1_code 86 = .ok (.iastore, 1) := by decide +kernel
theorem d_Model_init_87 : decode prog_9_method_1_code 87 = .ok (.dup, 1) := by decide +kernel
theorem d_Model_init_88 : decode prog_9_method_1_code 88 = .ok (.bipush 7, 2) := by decide +kernel
theorem d_Model_init_90 : decode prog_9_method_1_code 90 = .ok (.iconst 1, 1) := by decide +kernel
theorem d_Model_init_91 : decode prog_9_method_1_code 91 = .ok (.iastore, 1) := by decide +kernel
theorem d_Model_init_92 : decode prog_9_method_1_code 92 = .ok (.putfield 29, 3) := by decide +kernel
theorem d_Model_init_95 : decode prog_9_method_1_code 95 = .ok (.aload_n 0, 1) := by decide +kernel
theorem d_Model_init_96 : decode prog_9_method_1_code 96 = .ok (.bipush 8, 2) := by decide +kernel
theorem d_Model_init_98 : decode prog_9_method_1_code 98 = .ok (.newarray .boolean, 2) := by decide +kernel
theorem d_Model_init_100 : decode prog_9_method_1_code 100 = .ok (.putfield 32, 3) := by decide +kernel
theorem d_Model_init_103 : decode prog_9_method_1_code 103 = .ok (.aload_n 0, 1) := by decide +kernel
theorem d_Model_init_104 : decode prog_9_method_1_code 104 = .ok (.bipush 8, 2) := by decide +kernel
theorem d_Model_init_106 : decode prog_9_method_1_code 106 = .ok (.newarray .int, 2) := by decide +kernel
theorem d_Model_init_108 : decode prog_9_method_1_code 108 = .ok (.dup, 1) := by decide +kernel
theorem d_Model_init_109 : decode prog_9_method_1_code 109 = .ok (.iconst 0, 1) := by decide +kernel
theorem d_Model_init_110 : decode prog_9_method_1_code 110 = .ok (.iconst 3, 1) := by decide +kernel
theorem d_Model_init_111 : decode prog_9_method_1_code 111 = .ok (.iastore, 1) := by decide +kernel
theorem d_Model_init_112 : decode prog_9_method_1_code 112 = .ok (.dup, 1) := by decide +kernel
theorem d_Model_init_113 : decode prog_9_method_1_code 113 = .ok (.iconst 1, 1) := by decide +kernel
theorem d_Model_init_114 : decode prog_9_method_1_code 114 = .ok (.iconst 3, 1) := by decide +kernel
theorem d_Model_init_115 : decode prog_9_method_1_code 115 = .ok (.iastore, 1) := by decide +kernel
theorem d_Model_init_116 : decode prog_9_method_1_code 116 = .ok (.dup, 1) := by decide +kernel
theorem d_Model_init_117 : decode prog_9_method_1_code 117 = .ok (.iconst 2, 1) := by decide +kernel
theorem d_Model_init_118 : decode prog_9_method_1_code 118 = .ok (.iconst 3, 1) := by decide +kernel
theorem d_Model_init_119 : decode prog_9_method_1_code 119 = .ok (.iastore, 1) := by decide +kernel
theorem d_Model_init_120 : decode prog_9_method_1_code 120 = .ok (.dup, 1) := by decide +kernel
theorem d_Model_init_121 : decode prog_9_method_1_code 121 = .ok (.iconst 3, 1) := by decide +kernel
theorem d_Model_init_122 : decode prog_9_method_1_code 122 = .ok (.iconst 3, 1) := by decide +kernel
theorem d_Model_init_123 : decode prog_9_method_1_code 123 = .ok (.iastore, 1) := by decide +kernel
theorem d_Model_init_124 : decode prog_9_method_1_code 124 = .ok (.dup, 1) := by decide +kernel
theorem d_Model_init_125 : decode prog_9_method_1_code 125 = .ok (.iconst 4, 1) := by decide +kernel
theorem d_Model_init_126 : decode prog_9_method_1_code 126 = .ok (.iconst 3, 1) := by decide +kernel
theorem d_Model_init_127 : decode prog_9_method_1_code 127 = .ok (.iastore, 1) := by decide +kernel
theorem d_Model_init_128 : decode prog_9_method_1_code 128 = .ok (.dup, 1) := by decide +kernel
theorem d_Model_init_129 : decode prog_9_method_1_code 129 = .ok (.iconst 5, 1) := by decide +kernel
theorem d_Model_init_130 : decode prog_9_method_1_code 130 = .ok (.iconst 3, 1) := by decide +kernel
theorem d_Model_init_131 : decode prog_9_method_1_code 131 = .ok (.iastore, 1) := by decide +kernel
theorem d_Model_init_132 : decode prog_9_method_1_code 132 = .ok (.dup, 1) := by decide +kernel
theorem d_Model_init_133 : decode prog_9_method_1_code 133 = .ok (.bipush 6, 2) := by decide +kernel
theorem d_Model_init_135 : decode prog_9_method_1_code 135 = .ok (.iconst 3, 1) := by decide +kernel
theorem d_Model_init_136 : decode prog_9_method_1_code 136 = .ok (.iastore, 1) := by decide +kernel
theorem d_Model_init_137 : decode prog_9_method_1_code 137 = .ok (.dup, 1) := by decide +kernel
theorem d_Model_init_138 : decode prog_9_method_1_code 138 = .ok (.bipush 7, 2) := by decide +kernel
theorem d_Model_init_140 : decode prog_9_method_1_code 140 = .ok (.iconst 3, 1) := by decide +kernel
theorem d_Model_init_141 : decode prog_9_method_1_code 141 = .ok (.iastore, 1) := by decide +kernel
theorem d_Model_init_142 : decode prog_9_method_1_code 142 = .ok (.putfield 35, 3) := by decide +kernel
theorem d_Model_init_145 : decode prog_9_method_1_code 145 = .ok (.aload_n 0, 1) := by decide +kernel
theorem d_Model_init_146 : decode prog_9_method_1_code 146 = .ok (.bipush 41, 2) := by decide +kernel
theorem d_Model_init_148 : decode prog_9_method_1_code 148 = .ok (.newarray .int, 2) := by decide +kernel
theorem d_Model_init_150 : decode prog_9_method_1_code 150 = .ok (.putfield 38, 3) := by decide +kernel
theorem d_Model_init_153 : decode prog_9_method_1_code 153 = .ok (.aload_n 0, 1) := by decide +kernel
theorem d_Model_init_154 : decode prog_9_method_1_code 154 = .ok (.bipush 41, 2) := by decide +kernel
theorem d_Model_init_156 : decode prog_9_method_1_code 156 = .ok (.newarray .int, 2) := by decide +kernel
theorem d_Model_init_158 : decode prog_9_method_1_code 158 = .ok (.putfield 41, 3) := by decide +kernel
theorem d_Model_init_161 : decode prog_9_method_1_code 161 = .ok (.aload_n 0, 1) := by decide +kernel
theorem d_Model_init_162 : decode prog_9_method_1_code 162 = .ok (.bipush 41, 2) := by decide +kernel
theorem d_Model_init_164 : decode prog_9_method_1_code 164 = .ok (.newarray .int, 2) := by decide +kernel
theorem d_Model_init_166 : decode prog_9_method_1_code 166 = .ok (.putfield 44, 3) := by decide +kernel
theorem d_Model_init_169 : decode prog_9_method_1_code 169 = .ok (.aload_n 0, 1) := by decide +kernel
theorem d_Model_init_170 : decode prog_9_method_1_code 170 = .ok (.bipush 41, 2) := by decide +kernel
theorem d_Model_init_172 : decode prog_9_method_1_code 172 = .ok (.newarray .int, 2) := by decide +kernel
theorem d_Model_init_174 : decode prog_9_method_1_code 174 = .ok (.putfield 47, 3) := by decide +kernel
theorem d_Model_init_177 : decode prog_9_method_1_code 177 = .ok (.aload_n 0, 1) := by decide +kernel
theorem d_Model_init_178 : decode prog_9_method_1_code 178 = .ok (.bipush 41, 2) := by decide +kernel
theorem d_Model_init_180 : decode prog_9_method_1_code 180 = .ok (.newarray .int, 2) := by decide +kernel
theorem d_Model_init_182 : decode prog_9_method_1_code 182 = .ok (.putfield 50, 3) := by decide +kernel
theorem d_Model_init_185 : decode prog_9_method_1_code 185 = .ok (.aload_n 0, 1) := by decide +kernel
theorem d_Model_init_186 : decode prog_9_method_1_code 186 = .ok (.bipush 41, 2) := by decide +kernel
theorem d_Model_init_188 : decode prog_9_method_1_code 188 = .ok (.newarray .int, 2) := by decide +kernel
theorem d_Model_init_190 : decode prog_9_method_1_code 190 = .ok (.putfield 53, 3) := by decide +kernel
theorem d_Model_init_193 : decode prog_9_method_1_code 193 = .ok (.aload_n 0, 1) := by decide +kernel
theorem d_Model_init_194 : decode prog_9_method_1_code 194 = .ok (.bipush 41, 2) := by decide +kernel
theorem d_Model_init_196 : decode prog_9_method_1_code 196 = .ok (.newarray .int, 2) := by decide +kernel
theorem d_Model_init_198 : decode prog_9_method_1_code 198 = .ok (.putfield 56, 3) := by decide +kernel
theorem d_Model_init_201 : decode prog_9_method_1_code 201 = .ok (.aload_n 0, 1) := by decide +kernel
theorem d_Model_init_202 : decode prog_9_method_1_code 202 = .ok (.bipush 41, 2) := by decide +kernel
theorem d_Model_init_204 : decode prog_9_method_1_code 204 = .ok (.newarray .boolean, 2) := by decide +kernel
theorem d_Model_init_206 : decode prog_9_method_1_code 206 = .ok (.putfield 59, 3) := by decide +kernel
theorem d_Model_init_209 : decode prog_9_method_1_code 209 = .ok (.aload_n 0, 1) := by decide +kernel
theorem d_Model_init_210 : decode prog_9_method_1_code 210 = .ok (.bipush 41, 2) := by decide +kernel
theorem d_Model_init_212 : decode prog_9_method_1_code 212 = .ok (.newarray .int, 2) := by decide +kernel
theorem d_Model_init_214 : decode prog_9_method_1_code 214 = .ok (.putfield 62, 3) := by decide +kernel
theorem d_Model_init_217 : decode prog_9_method_1_code 217 = .ok (.aload_n 0, 1) := by decide +kernel
theorem d_Model_init_218 : decode prog_9_method_1_code 218 = .ok (.bipush 41, 2) := by decide +kernel
theorem d_Model_init_220 : decode prog_9_method_1_code 220 = .ok (.newarray .int, 2) := by decide +kernel
theorem d_Model_init_222 : decode prog_9_method_1_code 222 = .ok (.putfield 65, 3) := by decide +kernel
theorem d_Model_init_225 : decode prog_9_method_1_code 225 = .ok (.aload_n 0, 1) := by decide +kernel
theorem d_Model_init_226 : decode prog_9_method_1_code 226 = .ok (.bipush 40, 2) := by decide +kernel
theorem d_Model_init_228 : decode prog_9_method_1_code 228 = .ok (.newarray .int, 2) := by decide +kernel
theorem d_Model_init_230 : decode prog_9_method_1_code 230 = .ok (.putfield 68, 3) := by decide +kernel
theorem d_Model_init_233 : decode prog_9_method_1_code 233 = .ok (.aload_n 0, 1) := by decide +kernel
theorem d_Model_init_234 : decode prog_9_method_1_code 234 = .ok (.bipush 40, 2) := by decide +kernel
theorem d_Model_init_236 : decode prog_9_method_1_code 236 = .ok (.newarray .int, 2) := by decide +kernel
theorem d_Model_init_238 : decode prog_9_method_1_code 238 = .ok (.putfield 71, 3) := by decide +kernel
theorem d_Model_init_241 : decode prog_9_method_1_code 241 = .ok (.aload_n 0, 1) := by decide +kernel
theorem d_Model_init_242 : decode prog_9_method_1_code 242 = .ok (.bipush 40, 2) := by decide +kernel
theorem d_Model_init_244 : decode prog_9_method_1_code 244 = .ok (.newarray .int, 2) := by decide +kernel
theorem d_Model_init_246 : decode prog_9_method_1_code 246 = .ok (.putfield 74, 3) := by decide +kernel
theorem d_Model_init_249 : decode prog_9_method_1_code 249 = .ok (.aload_n 0, 1) := by decide +kernel
theorem d_Model_init_250 : decode prog_9_method_1_code 250 = .ok (.bipush 40, 2) := by decide +kernel
theorem d_Model_init_252 : decode prog_9_method_1_code 252 = .ok (.newarray .int, 2) := by decide +kernel
theorem d_Model_init_254 : decode prog_9_method_1_code 254 = .ok (.putfield 77, 3) := by decide +kernel
theorem d_Model_init_257 : decode prog_9_method_1_code 257 = .ok (.aload_n 0, 1) := by decide +kernel
theorem d_Model_init_258 : decode prog_9_method_1_code 258 = .ok (.bipush 40, 2) := by decide +kernel
theorem d_Model_init_260 : decode prog_9_method_1_code 260 = .ok (.newarray .int, 2) := by decide +kernel
theorem d_Model_init_262 : decode prog_9_method_1_code 262 = .ok (.putfield 80, 3) := by decide +kernel
theorem d_Model_init_265 : decode prog_9_method_1_code 265 = .ok (.aload_n 0, 1) := by decide +kernel
theorem d_Model_init_266 : decode prog_9_method_1_code 266 = .ok (.bipush 40, 2) := by decide +kernel
theorem d_Model_init_268 : decode prog_9_method_1_code 268 = .ok (.newarray .int, 2) := by decide +kernel
theorem d_Model_init_270 : decode prog_9_method_1_code 270 = .ok (.putfield 83, 3) := by decide +kernel
theorem d_Model_init_273 : decode prog_9_method_1_code 273 = .ok (.aload_n 0, 1) := by decide +kernel
theorem d_Model_init_274 : decode prog_9_method_1_code 274 = .ok (.bipush 40, 2) := by decide +kernel
theorem d_Model_init_276 : decode prog_9_method_1_code 276 = .ok (.newarray .int, 2) := by decide +kernel
theorem d_Model_init_278 : decode prog_9_method_1_code 278 = .ok (.putfield 86, 3) := by decide +kernel
theorem d_Model_init_281 : decode prog_9_method_1_code 281 = .ok (.aload_n 0, 1) := by decide +kernel
theorem d_Model_init_282 : decode prog_9_method_1_code 282 = .ok (.bipush 40, 2) := by decide +kernel
theorem d_Model_init_284 : decode prog_9_method_1_code 284 = .ok (.newarray .int, 2) := by decide +kernel
theorem d_Model_init_286 : decode prog_9_method_1_code 286 = .ok (.putfield 89, 3) := by decide +kernel
theorem d_Model_init_289 : decode prog_9_method_1_code 289 = .ok (.aload_n 0, 1) := by decide +kernel
theorem d_Model_init_290 : decode prog_9_method_1_code 290 = .ok (.bipush 10, 2) := by decide +kernel
theorem d_Model_init_292 : decode prog_9_method_1_code 292 = .ok (.newarray .int, 2) := by decide +kernel
theorem d_Model_init_294 : decode prog_9_method_1_code 294 = .ok (.putfield 92, 3) := by decide +kernel
theorem d_Model_init_297 : decode prog_9_method_1_code 297 = .ok (.aload_n 0, 1) := by decide +kernel
theorem d_Model_init_298 : decode prog_9_method_1_code 298 = .ok (.bipush 10, 2) := by decide +kernel
theorem d_Model_init_300 : decode prog_9_method_1_code 300 = .ok (.newarray .int, 2) := by decide +kernel
theorem d_Model_init_302 : decode prog_9_method_1_code 302 = .ok (.putfield 95, 3) := by decide +kernel
theorem d_Model_init_305 : decode prog_9_method_1_code 305 = .ok (.aload_n 0, 1) := by decide +kernel
theorem d_Model_init_306 : decode prog_9_method_1_code 306 = .ok (.bipush 10, 2) := by decide +kernel
theorem d_Model_init_308 : decode prog_9_method_1_code 308 = .ok (.newarray .int, 2) := by decide +kernel
theorem d_Model_init_310 : decode prog_9_method_1_code 310 = .ok (.putfield 98, 3) := by decide +kernel
theorem d_Model_init_313 : decode prog_9_method_1_code 313 = .ok (.aload_n 0, 1) := by decide +kernel
theorem d_Model_init_314 : decode prog_9_method_1_code 314 = .ok (.bipush 20, 2) := by decide +kernel
theorem d_Model_init_316 : decode prog_9_method_1_code 316 = .ok (.newarray .int, 2) := by decide +kernel
theorem d_Model_init_318 : decode prog_9_method_1_code 318 = .ok (.putfield 101, 3) := by decide +kernel
theorem d_Model_init_321 : decode prog_9_method_1_code 321 = .ok (.return_, 1) := by decide +kernel
theorem d_Model_thrown_0 : decode prog_9_method_2_code 0 = .ok (.aload_n 0, 1) := by decide +kernel
theorem d_Model_thrown_1 : decode prog_9_method_2_code 1 = .ok (.getfield 104, 3) := by decide +kernel
theorem d_Model_thrown_4 : decode prog_9_method_2_code 4 = .ok (.ireturn, 1) := by decide +kernel
theorem d_Model_piece_0 : decode prog_9_method_9_code 0 = .ok (.aload_n 0, 1) := by decide +kernel
theorem d_Model_piece_1 : decode prog_9_method_9_code 1 = .ok (.aload_n 0, 1) := by decide +kernel
theorem d_Model_piece_2 : decode prog_9_method_9_code 2 = .ok (.getfield 108, 3) := by decide +kernel
theorem d_Model_piece_5 : decode prog_9_method_9_code 5 = .ok (.bipush 20, 2) := by decide +kernel
theorem d_Model_piece_7 : decode prog_9_method_9_code 7 = .ok (.if_icmp .ne 7, 3) := by decide +kernel
theorem d_Model_piece_10 : decode prog_9_method_9_code 10 = .ok (.iconst 1, 1) := by decide +kernel
theorem d_Model_piece_11 : decode prog_9_method_9_code 11 = .ok (.goto 4, 3) := by decide +kernel
theorem d_Model_piece_14 : decode prog_9_method_9_code 14 = .ok (.iconst 0, 1) := by decide +kernel
theorem d_Model_piece_15 : decode prog_9_method_9_code 15 = .ok (.putfield 104, 3) := by decide +kernel
theorem d_Model_piece_18 : decode prog_9_method_9_code 18 = .ok (.aload_n 0, 1) := by decide +kernel
theorem d_Model_piece_19 : decode prog_9_method_9_code 19 = .ok (.getfield 104, 3) := by decide +kernel
theorem d_Model_piece_22 : decode prog_9_method_9_code 22 = .ok (.ifCond .le 5, 3) := by decide +kernel
theorem d_Model_piece_25 : decode prog_9_method_9_code 25 = .ok (.iconst 0, 1) := by decide +kernel
theorem d_Model_piece_26 : decode prog_9_method_9_code 26 = .ok (.ireturn, 1) := by decide +kernel
theorem d_Model_piece_27 : decode prog_9_method_9_code 27 = .ok (.aload_n 0, 1) := by decide +kernel
theorem d_Model_piece_28 : decode prog_9_method_9_code 28 = .ok (.dup, 1) := by decide +kernel
theorem d_Model_piece_29 : decode prog_9_method_9_code 29 = .ok (.getfield 108, 3) := by decide +kernel
theorem d_Model_piece_32 : decode prog_9_method_9_code 32 = .ok (.iconst 1, 1) := by decide +kernel
theorem d_Model_piece_33 : decode prog_9_method_9_code 33 = .ok (.iadd, 1) := by decide +kernel
theorem d_Model_piece_34 : decode prog_9_method_9_code 34 = .ok (.putfield 108, 3) := by decide +kernel
theorem d_Model_piece_37 : decode prog_9_method_9_code 37 = .ok (.aload_n 0, 1) := by decide +kernel
theorem d_Model_piece_38 : decode prog_9_method_9_code 38 = .ok (.getfield 108, 3) := by decide +kernel
theorem d_Model_piece_41 : decode prog_9_method_9_code 41 = .ok (.iconst 1, 1) := by decide +kernel
theorem d_Model_piece_42 : decode prog_9_method_9_code 42 = .ok (.isub, 1) := by decide +kernel
theorem d_Model_piece_43 : decode prog_9_method_9_code 43 = .ok (.ireturn, 1) := by decide +kernel
theorem d_Model_link_0 : decode prog_9_method_10_code 0 = .ok (.aload_n 0, 1) := by decide +kernel
theorem d_Model_link_1 : decode prog_9_method_10_code 1 = .ok (.aload_n 0, 1) := by decide +kernel
theorem d_Model_link_2 : decode prog_9_method_10_code 2 = .ok (.iload_n 1, 1) := by decide +kernel
theorem d_Model_link_3 : decode prog_9_method_10_code 3 = .ok (.invokevirtual 124, 3) := by decide +kernel
theorem d_Model_link_6 : decode prog_9_method_10_code 6 = .ok (.ifCond .eq 11, 3) := by decide +kernel
theorem d_Model_link_9 : decode prog_9_method_10_code 9 = .ok (.aload_n 0, 1) := by decide +kernel
theorem d_Model_link_10 : decode prog_9_method_10_code 10 = .ok (.iload_n 2, 1) := by decide +kernel
theorem d_Model_link_11 : decode prog_9_method_10_code 11 = .ok (.invokevirtual 124, 3) := by decide +kernel
theorem d_Model_link_14 : decode prog_9_method_10_code 14 = .ok (.ifCond .ne 7, 3) := by decide +kernel
theorem d_Model_link_17 : decode prog_9_method_10_code 17 = .ok (.iconst 1, 1) := by decide +kernel
theorem d_Model_link_18 : decode prog_9_method_10_code 18 = .ok (.goto 13, 3) := by decide +kernel
theorem d_Model_link_21 : decode prog_9_method_10_code 21 = .ok (.iload_n 1, 1) := by decide +kernel
theorem d_Model_link_22 : decode prog_9_method_10_code 22 = .ok (.iload_n 2, 1) := by decide +kernel
theorem d_Model_link_23 : decode prog_9_method_10_code 23 = .ok (.if_icmp .ne 7, 3) := by decide +kernel
theorem d_Model_link_26 : decode prog_9_method_10_code 26 = .ok (.iconst 2, 1) := by decide +kernel
theorem d_Model_link_27 : decode prog_9_method_10_code 27 = .ok (.goto 4, 3) := by decide +kernel
theorem d_Model_link_30 : decode prog_9_method_10_code 30 = .ok (.iconst 0, 1) := by decide +kernel
theorem d_Model_link_31 : decode prog_9_method_10_code 31 = .ok (.putfield 104, 3) := by decide +kernel
theorem d_Model_link_34 : decode prog_9_method_10_code 34 = .ok (.aload_n 0, 1) := by decide +kernel
theorem d_Model_link_35 : decode prog_9_method_10_code 35 = .ok (.getfield 104, 3) := by decide +kernel
theorem d_Model_link_38 : decode prog_9_method_10_code 38 = .ok (.ifCond .le 4, 3) := by decide +kernel
theorem d_Model_link_41 : decode prog_9_method_10_code 41 = .ok (.return_, 1) := by decide +kernel
theorem d_Model_link_42 : decode prog_9_method_10_code 42 = .ok (.aload_n 0, 1) := by decide +kernel
theorem d_Model_link_43 : decode prog_9_method_10_code 43 = .ok (.getfield 7, 3) := by decide +kernel
theorem d_Model_link_46 : decode prog_9_method_10_code 46 = .ok (.bipush 20, 2) := by decide +kernel
theorem d_Model_link_48 : decode prog_9_method_10_code 48 = .ok (.iload_n 1, 1) := by decide +kernel
theorem d_Model_link_49 : decode prog_9_method_10_code 49 = .ok (.imul, 1) := by decide +kernel
theorem d_Model_link_50 : decode prog_9_method_10_code 50 = .ok (.iload_n 2, 1) := by decide +kernel
theorem d_Model_link_51 : decode prog_9_method_10_code 51 = .ok (.iadd, 1) := by decide +kernel
theorem d_Model_link_52 : decode prog_9_method_10_code 52 = .ok (.iconst 1, 1) := by decide +kernel
theorem d_Model_link_53 : decode prog_9_method_10_code 53 = .ok (.bastore, 1) := by decide +kernel
theorem d_Model_link_54 : decode prog_9_method_10_code 54 = .ok (.aload_n 0, 1) := by decide +kernel
theorem d_Model_link_55 : decode prog_9_method_10_code 55 = .ok (.getfield 7, 3) := by decide +kernel
theorem d_Model_link_58 : decode prog_9_method_10_code 58 = .ok (.bipush 20, 2) := by decide +kernel
theorem d_Model_link_60 : decode prog_9_method_10_code 60 = .ok (.iload_n 2, 1) := by decide +kernel
theorem d_Model_link_61 : decode prog_9_method_10_code 61 = .ok (.imul, 1) := by decide +kernel
theorem d_Model_link_62 : decode prog_9_method_10_code 62 = .ok (.iload_n 1, 1) := by decide +kernel
theorem d_Model_link_63 : decode prog_9_method_10_code 63 = .ok (.iadd, 1) := by decide +kernel
theorem d_Model_link_64 : decode prog_9_method_10_code 64 = .ok (.iconst 1, 1) := by decide +kernel
theorem d_Model_link_65 : decode prog_9_method_10_code 65 = .ok (.bastore, 1) := by decide +kernel
theorem d_Model_link_66 : decode prog_9_method_10_code 66 = .ok (.return_, 1) := by decide +kernel
theorem d_Model_isPiece_0 : decode prog_9_method_4_code 0 = .ok (.iload_n 1, 1) := by decide +kernel
theorem d_Model_isPiece_1 : decode prog_9_method_4_code 1 = .ok (.iconst 0, 1) := by decide +kernel
theorem d_Model_isPiece_2 : decode prog_9_method_4_code 2 = .ok (.aload_n 0, 1) := by decide +kernel
theorem d_Model_isPiece_3 : decode prog_9_method_4_code 3 = .ok (.getfield 108, 3) := by decide +kernel
theorem d_Model_isPiece_6 : decode prog_9_method_4_code 6 = .ok (.iconst 1, 1) := by decide +kernel
theorem d_Model_isPiece_7 : decode prog_9_method_4_code 7 = .ok (.isub, 1) := by decide +kernel
theorem d_Model_isPiece_8 : decode prog_9_method_4_code 8 = .ok (.invokestatic 111, 3) := by decide +kernel
theorem d_Model_isPiece_11 : decode prog_9_method_4_code 11 = .ok (.ireturn, 1) := by decide +kernel
theorem d_Model_in_0 : decode prog_9_method_3_code 0 = .ok (.iload_n 0, 1) := by decide +kernel
theorem d_Model_in_1 : decode prog_9_method_3_code 1 = .ok (.iload_n 1, 1) := by decide +kernel
theorem d_Model_in_2 : decode prog_9_method_3_code 2 = .ok (.if_icmp .lt 12, 3) := by decide +kernel
theorem d_Model_in_5 : decode prog_9_method_3_code 5 = .ok (.iload_n 0, 1) := by decide +kernel
theorem d_Model_in_6 : decode prog_9_method_3_code 6 = .ok (.iload_n 2, 1) := by decide +kernel
theorem d_Model_in_7 : decode prog_9_method_3_code 7 = .ok (.if_icmp .gt 7, 3) := by decide +kernel
theorem d_Model_in_10 : decode prog_9_method_3_code 10 = .ok (.iconst 1, 1) := by decide +kernel
theorem d_Model_in_11 : decode prog_9_method_3_code 11 = .ok (.goto 4, 3) := by decide +kernel
theorem d_Model_in_14 : decode prog_9_method_3_code 14 = .ok (.iconst 0, 1) := by decide +kernel
theorem d_Model_in_15 : decode prog_9_method_3_code 15 = .ok (.ireturn, 1) := by decide +kernel
theorem d_Model_robot_0 : decode prog_9_method_11_code 0 = .ok (.aload_n 0, 1) := by decide +kernel
theorem d_Model_robot_1 : decode prog_9_method_11_code 1 = .ok (.aload_n 0, 1) := by decide +kernel
theorem d_Model_robot_2 : decode prog_9_method_11_code 2 = .ok (.iload_n 1, 1) := by decide +kernel
theorem d_Model_robot_3 : decode prog_9_method_11_code 3 = .ok (.invokevirtual 124, 3) := by decide +kernel
theorem d_Model_robot_6 : decode prog_9_method_11_code 6 = .ok (.ifCond .ne 7, 3) := by decide +kernel
theorem d_Model_robot_9 : decode prog_9_method_11_code 9 = .ok (.iconst 1, 1) := by decide +kernel
theorem d_Model_robot_10 : decode prog_9_method_11_code 10 = .ok (.goto 17, 3) := by decide +kernel
theorem d_Model_robot_13 : decode prog_9_method_11_code 13 = .ok (.aload_n 0, 1) := by decide +kernel
theorem d_Model_robot_14 : decode prog_9_method_11_code 14 = .ok (.getfield 115, 3) := by decide +kernel
theorem d_Model_robot_17 : decode prog_9_method_11_code 17 = .ok (.bipush 8, 2) := by decide +kernel
theorem d_Model_robot_19 : decode prog_9_method_11_code 19 = .ok (.if_icmp .ne 7, 3) := by decide +kernel
theorem d_Model_robot_22 : decode prog_9_method_11_code 22 = .ok (.iconst 2, 1) := by decide +kernel
theorem d_Model_robot_23 : decode prog_9_method_11_code 23 = .ok (.goto 4, 3) := by decide +kernel
theorem d_Model_robot_26 : decode prog_9_method_11_code 26 = .ok (.iconst 0, 1) := by decide +kernel
theorem d_Model_robot_27 : decode prog_9_method_11_code 27 = .ok (.putfield 104, 3) := by decide +kernel
theorem d_Model_robot_30 : decode prog_9_method_11_code 30 = .ok (.aload_n 0, 1) := by decide +kernel
theorem d_Model_robot_31 : decode prog_9_method_11_code 31 = .ok (.getfield 104, 3) := by decide +kernel
theorem d_Model_robot_34 : decode prog_9_method_11_code 34 = .ok (.ifCond .le 5, 3) := by decide +kernel
theorem d_Model_robot_37 : decode prog_9_method_11_code 37 = .ok (.iconst 0, 1) := by decide +kernel
theorem d_Model_robot_38 : decode prog_9_method_11_code 38 = .ok (.ireturn, 1) := by decide +kernel
theorem d_Model_robot_39 : decode prog_9_method_11_code 39 = .ok (.aload_n 0, 1) := by decide +kernel
theorem d_Model_robot_40 : decode prog_9_method_11_code 40 = .ok (.getfield 13, 3) := by decide +kernel
theorem d_Model_robot_43 : decode prog_9_method_11_code 43 = .ok (.aload_n 0, 1) := by decide +kernel
theorem d_Model_robot_44 : decode prog_9_method_11_code 44 = .ok (.getfield 115, 3) := by decide +kernel
theorem d_Model_robot_47 : decode prog_9_method_11_code 47 = .ok (.iload_n 1, 1) := by decide +kernel
theorem d_Model_robot_48 : decode prog_9_method_11_code 48 = .ok (.iastore, 1) := by decide +kernel
theorem d_Model_robot_49 : decode prog_9_method_11_code 49 = .ok (.aload_n 0, 1) := by decide +kernel
theorem d_Model_robot_50 : decode prog_9_method_11_code 50 = .ok (.getfield 17, 3) := by decide +kernel
theorem d_Model_robot_53 : decode prog_9_method_11_code 53 = .ok (.aload_n 0, 1) := by decide +kernel
theorem d_Model_robot_54 : decode prog_9_method_11_code 54 = .ok (.getfield 115, 3) := by decide +kernel
theorem d_Model_robot_57 : decode prog_9_method_11_code 57 = .ok (.iconst (-1), 1) := by decide +kernel
theorem d_Model_robot_58 : decode prog_9_method_11_code 58 = .ok (.iastore, 1) := by decide +kernel
theorem d_Model_robot_59 : decode prog_9_method_11_code 59 = .ok (.aload_n 0, 1) := by decide +kernel
theorem d_Model_robot_60 : decode prog_9_method_11_code 60 = .ok (.dup, 1) := by decide +kernel
theorem d_Model_robot_61 : decode prog_9_method_11_code 61 = .ok (.getfield 115, 3) := by decide +kernel
theorem d_Model_robot_64 : decode prog_9_method_11_code 64 = .ok (.iconst 1, 1) := by decide +kernel
theorem d_Model_robot_65 : decode prog_9_method_11_code 65 = .ok (.iadd, 1) := by decide +kernel
theorem d_Model_robot_66 : decode prog_9_method_11_code 66 = .ok (.putfield 115, 3) := by decide +kernel
theorem d_Model_robot_69 : decode prog_9_method_11_code 69 = .ok (.aload_n 0, 1) := by decide +kernel
theorem d_Model_robot_70 : decode prog_9_method_11_code 70 = .ok (.getfield 115, 3) := by decide +kernel
theorem d_Model_robot_73 : decode prog_9_method_11_code 73 = .ok (.iconst 1, 1) := by decide +kernel
theorem d_Model_robot_74 : decode prog_9_method_11_code 74 = .ok (.isub, 1) := by decide +kernel
theorem d_Model_robot_75 : decode prog_9_method_11_code 75 = .ok (.ireturn, 1) := by decide +kernel
theorem d_Model_rule_0 : decode prog_9_method_12_code 0 = .ok (.aload_n 0, 1) := by decide +kernel
theorem d_Model_rule_1 : decode prog_9_method_12_code 1 = .ok (.iload_n 1, 1) := by decide +kernel
theorem d_Model_rule_2 : decode prog_9_method_12_code 2 = .ok (.invokestatic 128, 3) := by decide +kernel
theorem d_Model_rule_5 : decode prog_9_method_12_code 5 = .ok (.ifCond .eq 26, 3) := by decide +kernel
theorem d_Model_rule_8 : decode prog_9_method_12_code 8 = .ok (.iload_n 2, 1) := by decide +kernel
theorem d_Model_rule_9 : decode prog_9_method_12_code 9 = .ok (.iconst 1, 1) := by decide +kernel
theorem d_Model_rule_10 : decode prog_9_method_12_code 10 = .ok (.iconst 2, 1) := by decide +kernel
theorem d_Model_rule_11 : decode prog_9_method_12_code 11 = .ok (.invokestatic 111, 3) := by decide +kernel
theorem d_Model_rule_14 : decode prog_9_method_12_code 14 = .ok (.ifCond .eq 17, 3) := by decide +kernel
theorem d_Model_rule_17 : decode prog_9_method_12_code 17 = .ok (.iload 4, 2) := by decide +kernel
theorem d_Model_rule_19 : decode prog_9_method_12_code 19 = .ok (.iconst 1, 1) := by decide +kernel
theorem d_Model_rule_20 : decode prog_9_method_12_code 20 = .ok (.iconst 5, 1) := by decide +kernel
theorem d_Model_rule_21 : decode prog_9_method_12_code 21 = .ok (.invokestatic 111, 3) := by decide +kernel
theorem d_Model_rule_24 : decode prog_9_method_12_code 24 = .ok (.ifCond .eq 7, 3) := by decide +kernel
theorem d_Model_rule_27 : decode prog_9_method_12_code 27 = .ok (.iconst 0, 1) := by decide +kernel
theorem d_Model_rule_28 : decode prog_9_method_12_code 28 = .ok (.goto 4, 3) := by decide +kernel
theorem d_Model_rule_31 : decode prog_9_method_12_code 31 = .ok (.iconst 1, 1) := by decide +kernel
theorem d_Model_rule_32 : decode prog_9_method_12_code 32 = .ok (.putfield 104, 3) := by decide +kernel
theorem d_Model_rule_35 : decode prog_9_method_12_code 35 = .ok (.aload_n 0, 1) := by decide +kernel
theorem d_Model_rule_36 : decode prog_9_method_12_code 36 = .ok (.getfield 104, 3) := by decide +kernel
theorem d_Model_rule_39 : decode prog_9_method_12_code 39 = .ok (.ifCond .le 4, 3) := by decide +kernel
theorem d_Model_rule_42 : decode prog_9_method_12_code 42 = .ok (.return_, 1) := by decide +kernel
theorem d_Model_rule_43 : decode prog_9_method_12_code 43 = .ok (.aload_n 0, 1) := by decide +kernel
theorem d_Model_rule_44 : decode prog_9_method_12_code 44 = .ok (.getfield 29, 3) := by decide +kernel
theorem d_Model_rule_47 : decode prog_9_method_12_code 47 = .ok (.iload_n 1, 1) := by decide +kernel
theorem d_Model_rule_48 : decode prog_9_method_12_code 48 = .ok (.iload_n 2, 1) := by decide +kernel
theorem d_Model_rule_49 : decode prog_9_method_12_code 49 = .ok (.iastore, 1) := by decide +kernel
theorem d_Model_rule_50 : decode prog_9_method_12_code 50 = .ok (.aload_n 0, 1) := by decide +kernel
theorem d_Model_rule_51 : decode prog_9_method_12_code 51 = .ok (.getfield 32, 3) := by decide +kernel
theorem d_Model_rule_54 : decode prog_9_method_12_code 54 = .ok (.iload_n 1, 1) := by decide +kernel
theorem d_Model_rule_55 : decode prog_9_method_12_code 55 = .ok (.iload_n 3, 1) := by decide +kernel
theorem d_Model_rule_56 : decode prog_9_method_12_code 56 = .ok (.bastore, 1) := by decide +kernel
theorem d_Model_rule_57 : decode prog_9_method_12_code 57 = .ok (.aload_n 0, 1) := by decide +kernel
theorem d_Model_rule_58 : decode prog_9_method_12_code 58 = .ok (.getfield 35, 3) := by decide +kernel
theorem d_Model_rule_61 : decode prog_9_method_12_code 61 = .ok (.iload_n 1, 1) := by decide +kernel
theorem d_Model_rule_62 : decode prog_9_method_12_code 62 = .ok (.iload 4, 2) := by decide +kernel
theorem d_Model_rule_64 : decode prog_9_method_12_code 64 = .ok (.iastore, 1) := by decide +kernel
theorem d_Model_rule_65 : decode prog_9_method_12_code 65 = .ok (.return_, 1) := by decide +kernel
theorem d_Model_isKind_0 : decode prog_9_method_8_code 0 = .ok (.iload_n 0, 1) := by decide +kernel
theorem d_Model_isKind_1 : decode prog_9_method_8_code 1 = .ok (.iconst 0, 1) := by decide +kernel
theorem d_Model_isKind_2 : decode prog_9_method_8_code 2 = .ok (.bipush 7, 2) := by decide +kernel
theorem d_Model_isKind_4 : decode prog_9_method_8_code 4 = .ok (.invokestatic 111, 3) := by decide +kernel
theorem d_Model_isKind_7 : decode prog_9_method_8_code 7 = .ok (.ireturn, 1) := by decide +kernel
theorem d_Model_move_0 : decode prog_9_method_13_code 0 = .ok (.aload_n 0, 1) := by decide +kernel
theorem d_Model_move_1 : decode prog_9_method_13_code 1 = .ok (.aload_n 0, 1) := by decide +kernel
