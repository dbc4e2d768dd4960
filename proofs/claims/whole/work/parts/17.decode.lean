/-! decode rows: printed by wip/gen/names.py -/
theorem d_Model_pass_59 : decode prog_9_method_32_code 59 = .ok (.aload_n 0, 1) := by decide +kernel
theorem d_Model_pass_60 : decode prog_9_method_32_code 60 = .ok (.invokevirtual 173, 3) := by decide +kernel
theorem d_Model_pass_63 : decode prog_9_method_32_code 63 = .ok (.iconst 0, 1) := by decide +kernel
theorem d_Model_pass_64 : decode prog_9_method_32_code 64 = .ok (.istore 4, 2) := by decide +kernel
theorem d_Model_pass_66 : decode prog_9_method_32_code 66 = .ok (.iload 4, 2) := by decide +kernel
theorem d_Model_pass_68 : decode prog_9_method_32_code 68 = .ok (.aload_n 0, 1) := by decide +kernel
theorem d_Model_pass_69 : decode prog_9_method_32_code 69 = .ok (.getfield 121, 3) := by decide +kernel
theorem d_Model_pass_72 : decode prog_9_method_32_code 72 = .ok (.if_icmp .ge 96, 3) := by decide +kernel
theorem d_Model_pass_75 : decode prog_9_method_32_code 75 = .ok (.aload_n 0, 1) := by decide +kernel
theorem d_Model_pass_76 : decode prog_9_method_32_code 76 = .ok (.getfield 83, 3) := by decide +kernel
theorem d_Model_pass_79 : decode prog_9_method_32_code 79 = .ok (.iload 4, 2) := by decide +kernel
theorem d_Model_pass_81 : decode prog_9_method_32_code 81 = .ok (.iaload, 1) := by decide +kernel
theorem d_Model_pass_82 : decode prog_9_method_32_code 82 = .ok (.iconst (-1), 1) := by decide +kernel
theorem d_Model_pass_83 : decode prog_9_method_32_code 83 = .ok (.if_icmp .ne 79, 3) := by decide +kernel
theorem d_Model_pass_86 : decode prog_9_method_32_code 86 = .ok (.aload_n 0, 1) := by decide +kernel
theorem d_Model_pass_87 : decode prog_9_method_32_code 87 = .ok (.getfield 47, 3) := by decide +kernel
theorem d_Model_pass_90 : decode prog_9_method_32_code 90 = .ok (.aload_n 0, 1) := by decide +kernel
theorem d_Model_pass_91 : decode prog_9_method_32_code 91 = .ok (.getfield 89, 3) := by decide +kernel
theorem d_Model_pass_94 : decode prog_9_method_32_code 94 = .ok (.iload 4, 2) := by decide +kernel
theorem d_Model_pass_96 : decode prog_9_method_32_code 96 = .ok (.iaload, 1) := by decide +kernel
theorem d_Model_pass_97 : decode prog_9_method_32_code 97 = .ok (.iaload, 1) := by decide +kernel
theorem d_Model_pass_98 : decode prog_9_method_32_code 98 = .ok (.iconst (-1), 1) := by decide +kernel
theorem d_Model_pass_99 : decode prog_9_method_32_code 99 = .ok (.if_icmp .ne 63, 3) := by decide +kernel
theorem d_Model_pass_102 : decode prog_9_method_32_code 102 = .ok (.aload_n 0, 1) := by decide +kernel
theorem d_Model_pass_103 : decode prog_9_method_32_code 103 = .ok (.getfield 77, 3) := by decide +kernel
theorem d_Model_pass_106 : decode prog_9_method_32_code 106 = .ok (.iload 4, 2) := by decide +kernel
theorem d_Model_pass_108 : decode prog_9_method_32_code 108 = .ok (.iaload, 1) := by decide +kernel
theorem d_Model_pass_109 : decode prog_9_method_32_code 109 = .ok (.iconst 3, 1) := by decide +kernel
theorem d_Model_pass_110 : decode prog_9_method_32_code 110 = .ok (.if_icmp .eq 52, 3) := by decide +kernel
theorem d_Model_pass_113 : decode prog_9_method_32_code 113 = .ok (.aload_n 0, 1) := by decide +kernel
theorem d_Model_pass_114 : decode prog_9_method_32_code 114 = .ok (.getfield 138, 3) := by decide +kernel
theorem d_Model_pass_117 : decode prog_9_method_32_code 117 = .ok (.aload_n 0, 1) := by decide +kernel
theorem d_Model_pass_118 : decode prog_9_method_32_code 118 = .ok (.getfield 86, 3) := by decide +kernel
theorem d_Model_pass_121 : decode prog_9_method_32_code 121 = .ok (.iload 4, 2) := by decide +kernel
theorem d_Model_pass_123 : decode prog_9_method_32_code 123 = .ok (.iaload, 1) := by decide +kernel
theorem d_Model_pass_124 : decode prog_9_method_32_code 124 = .ok (.if_icmp .eq 38, 3) := by decide +kernel
theorem d_Model_pass_127 : decode prog_9_method_32_code 127 = .ok (.aload_n 0, 1) := by decide +kernel
theorem d_Model_pass_128 : decode prog_9_method_32_code 128 = .ok (.getfield 138, 3) := by decide +kernel
theorem d_Model_pass_131 : decode prog_9_method_32_code 131 = .ok (.aload_n 0, 1) := by decide +kernel
theorem d_Model_pass_132 : decode prog_9_method_32_code 132 = .ok (.getfield 86, 3) := by decide +kernel
theorem d_Model_pass_135 : decode prog_9_method_32_code 135 = .ok (.iload 4, 2) := by decide +kernel
theorem d_Model_pass_137 : decode prog_9_method_32_code 137 = .ok (.iaload, 1) := by decide +kernel
theorem d_Model_pass_138 : decode prog_9_method_32_code 138 = .ok (.isub, 1) := by decide +kernel
theorem d_Model_pass_139 : decode prog_9_method_32_code 139 = .ok (.bipush 30, 2) := by decide +kernel
theorem d_Model_pass_141 : decode prog_9_method_32_code 141 = .ok (.irem, 1) := by decide +kernel
theorem d_Model_pass_142 : decode prog_9_method_32_code 142 = .ok (.ifCond .eq 6, 3) := by decide +kernel
theorem d_Model_pass_145 : decode prog_9_method_32_code 145 = .ok (.goto 17, 3) := by decide +kernel
theorem d_Model_pass_148 : decode prog_9_method_32_code 148 = .ok (.aload_n 0, 1) := by decide +kernel
theorem d_Model_pass_149 : decode prog_9_method_32_code 149 = .ok (.getfield 77, 3) := by decide +kernel
theorem d_Model_pass_152 : decode prog_9_method_32_code 152 = .ok (.iload 4, 2) := by decide +kernel
theorem d_Model_pass_154 : decode prog_9_method_32_code 154 = .ok (.dup2, 1) := by decide +kernel
theorem d_Model_pass_155 : decode prog_9_method_32_code 155 = .ok (.iaload, 1) := by decide +kernel
theorem d_Model_pass_156 : decode prog_9_method_32_code 156 = .ok (.iconst 1, 1) := by decide +kernel
theorem d_Model_pass_157 : decode prog_9_method_32_code 157 = .ok (.iadd, 1) := by decide +kernel
theorem d_Model_pass_158 : decode prog_9_method_32_code 158 = .ok (.iastore, 1) := by decide +kernel
theorem d_Model_pass_159 : decode prog_9_method_32_code 159 = .ok (.iinc 2 1, 3) := by decide +kernel
theorem d_Model_pass_162 : decode prog_9_method_32_code 162 = .ok (.iinc 4 1, 3) := by decide +kernel
theorem d_Model_pass_165 : decode prog_9_method_32_code 165 = .ok (.goto (-99), 3) := by decide +kernel
theorem d_Model_pass_168 : decode prog_9_method_32_code 168 = .ok (.iinc 3 1, 3) := by decide +kernel
theorem d_Model_pass_171 : decode prog_9_method_32_code 171 = .ok (.goto (-127), 3) := by decide +kernel
theorem d_Model_pass_174 : decode prog_9_method_32_code 174 = .ok (.iload_n 2, 1) := by decide +kernel
theorem d_Model_pass_175 : decode prog_9_method_32_code 175 = .ok (.ireturn, 1) := by decide +kernel
theorem d_Model_comePlanted_0 : decode prog_9_method_31_code 0 = .ok (.iconst 0, 1) := by decide +kernel
theorem d_Model_comePlanted_1 : decode prog_9_method_31_code 1 = .ok (.istore_n 1, 1) := by decide +kernel
theorem d_Model_comePlanted_2 : decode prog_9_method_31_code 2 = .ok (.iconst 0, 1) := by decide +kernel
theorem d_Model_comePlanted_3 : decode prog_9_method_31_code 3 = .ok (.istore_n 2, 1) := by decide +kernel
theorem d_Model_comePlanted_4 : decode prog_9_method_31_code 4 = .ok (.iload_n 2, 1) := by decide +kernel
theorem d_Model_comePlanted_5 : decode prog_9_method_31_code 5 = .ok (.aload_n 0, 1) := by decide +kernel
theorem d_Model_comePlanted_6 : decode prog_9_method_31_code 6 = .ok (.getfield 169, 3) := by decide +kernel
theorem d_Model_comePlanted_9 : decode prog_9_method_31_code 9 = .ok (.if_icmp .ge 101, 3) := by decide +kernel
theorem d_Model_comePlanted_12 : decode prog_9_method_31_code 12 = .ok (.aload_n 0, 1) := by decide +kernel
theorem d_Model_comePlanted_13 : decode prog_9_method_31_code 13 = .ok (.getfield 98, 3) := by decide +kernel
theorem d_Model_comePlanted_16 : decode prog_9_method_31_code 16 = .ok (.iload_n 2, 1) := by decide +kernel
theorem d_Model_comePlanted_17 : decode prog_9_method_31_code 17 = .ok (.iaload, 1) := by decide +kernel
theorem d_Model_comePlanted_18 : decode prog_9_method_31_code 18 = .ok (.aload_n 0, 1) := by decide +kernel
theorem d_Model_comePlanted_19 : decode prog_9_method_31_code 19 = .ok (.getfield 138, 3) := by decide +kernel
theorem d_Model_comePlanted_22 : decode prog_9_method_31_code 22 = .ok (.if_icmp .ne 43, 3) := by decide +kernel
theorem d_Model_comePlanted_25 : decode prog_9_method_31_code 25 = .ok (.aload_n 0, 1) := by decide +kernel
theorem d_Model_comePlanted_26 : decode prog_9_method_31_code 26 = .ok (.aload_n 0, 1) := by decide +kernel
theorem d_Model_comePlanted_27 : decode prog_9_method_31_code 27 = .ok (.getfield 92, 3) := by decide +kernel
theorem d_Model_comePlanted_30 : decode prog_9_method_31_code 30 = .ok (.iload_n 2, 1) := by decide +kernel
theorem d_Model_comePlanted_31 : decode prog_9_method_31_code 31 = .ok (.iaload, 1) := by decide +kernel
theorem d_Model_comePlanted_32 : decode prog_9_method_31_code 32 = .ok (.aload_n 0, 1) := by decide +kernel
theorem d_Model_comePlanted_33 : decode prog_9_method_31_code 33 = .ok (.getfield 95, 3) := by decide +kernel
theorem d_Model_comePlanted_36 : decode prog_9_method_31_code 36 = .ok (.iload_n 2, 1) := by decide +kernel
theorem d_Model_comePlanted_37 : decode prog_9_method_31_code 37 = .ok (.iaload, 1) := by decide +kernel
theorem d_Model_comePlanted_38 : decode prog_9_method_31_code 38 = .ok (.invokevirtual 144, 3) := by decide +kernel
theorem d_Model_comePlanted_41 : decode prog_9_method_31_code 41 = .ok (.ifCond .ne 63, 3) := by decide +kernel
theorem d_Model_comePlanted_44 : decode prog_9_method_31_code 44 = .ok (.aload_n 0, 1) := by decide +kernel
theorem d_Model_comePlanted_45 : decode prog_9_method_31_code 45 = .ok (.aload_n 0, 1) := by decide +kernel
theorem d_Model_comePlanted_46 : decode prog_9_method_31_code 46 = .ok (.getfield 92, 3) := by decide +kernel
theorem d_Model_comePlanted_49 : decode prog_9_method_31_code 49 = .ok (.iload_n 2, 1) := by decide +kernel
theorem d_Model_comePlanted_50 : decode prog_9_method_31_code 50 = .ok (.iaload, 1) := by decide +kernel
theorem d_Model_comePlanted_51 : decode prog_9_method_31_code 51 = .ok (.aload_n 0, 1) := by decide +kernel
theorem d_Model_comePlanted_52 : decode prog_9_method_31_code 52 = .ok (.getfield 95, 3) := by decide +kernel
theorem d_Model_comePlanted_55 : decode prog_9_method_31_code 55 = .ok (.iload_n 2, 1) := by decide +kernel
theorem d_Model_comePlanted_56 : decode prog_9_method_31_code 56 = .ok (.iaload, 1) := by decide +kernel
theorem d_Model_comePlanted_57 : decode prog_9_method_31_code 57 = .ok (.iconst 1, 1) := by decide +kernel
theorem d_Model_comePlanted_58 : decode prog_9_method_31_code 58 = .ok (.invokevirtual 147, 3) := by decide +kernel
theorem d_Model_comePlanted_61 : decode prog_9_method_31_code 61 = .ok (.pop, 1) := by decide +kernel
theorem d_Model_comePlanted_62 : decode prog_9_method_31_code 62 = .ok (.goto 42, 3) := by decide +kernel
theorem d_Model_comePlanted_65 : decode prog_9_method_31_code 65 = .ok (.aload_n 0, 1) := by decide +kernel
theorem d_Model_comePlanted_66 : decode prog_9_method_31_code 66 = .ok (.getfield 92, 3) := by decide +kernel
theorem d_Model_comePlanted_69 : decode prog_9_method_31_code 69 = .ok (.iload_n 1, 1) := by decide +kernel
theorem d_Model_comePlanted_70 : decode prog_9_method_31_code 70 = .ok (.aload_n 0, 1) := by decide +kernel
theorem d_Model_comePlanted_71 : decode prog_9_method_31_code 71 = .ok (.getfield 92, 3) := by decide +kernel
theorem d_Model_comePlanted_74 : decode prog_9_method_31_code 74 = .ok (.iload_n 2, 1) := by decide +kernel
theorem d_Model_comePlanted_75 : decode prog_9_method_31_code 75 = .ok (.iaload, 1) := by decide +kernel
theorem d_Model_comePlanted_76 : decode prog_9_method_31_code 76 = .ok (.iastore, 1) := by decide +kernel
theorem d_Model_comePlanted_77 : decode prog_9_method_31_code 77 = .ok (.aload_n 0, 1) := by decide +kernel
theorem d_Model_comePlanted_78 : decode prog_9_method_31_code 78 = .ok (.getfield 95, 3) := by decide +kernel
theorem d_Model_comePlanted_81 : decode prog_9_method_31_code 81 = .ok (.iload_n 1, 1) := by decide +kernel
theorem d_Model_comePlanted_82 : decode prog_9_method_31_code 82 = .ok (.aload_n 0, 1) := by decide +kernel
theorem d_Model_comePlanted_83 : decode prog_9_method_31_code 83 = .ok (.getfield 95, 3) := by decide +kernel
theorem d_Model_comePlanted_86 : decode prog_9_method_31_code 86 = .ok (.iload_n 2, 1) := by decide +kernel
theorem d_Model_comePlanted_87 : decode prog_9_method_31_code 87 = .ok (.iaload, 1) := by decide +kernel
theorem d_Model_comePlanted_88 : decode prog_9_method_31_code 88 = .ok (.iastore, 1) := by decide +kernel
theorem d_Model_comePlanted_89 : decode prog_9_method_31_code 89 = .ok (.aload_n 0, 1) := by decide +kernel
theorem d_Model_comePlanted_90 : decode prog_9_method_31_code 90 = .ok (.getfield 98, 3) := by decide +kernel
theorem d_Model_comePlanted_93 : decode prog_9_method_31_code 93 = .ok (.iload_n 1, 1) := by decide +kernel
theorem d_Model_comePlanted_94 : decode prog_9_method_31_code 94 = .ok (.aload_n 0, 1) := by decide +kernel
theorem d_Model_comePlanted_95 : decode prog_9_method_31_code 95 = .ok (.getfield 98, 3) := by decide +kernel
theorem d_Model_comePlanted_98 : decode prog_9_method_31_code 98 = .ok (.iload_n 2, 1) := by decide +kernel
theorem d_Model_comePlanted_99 : decode prog_9_method_31_code 99 = .ok (.iaload, 1) := by decide +kernel
theorem d_Model_comePlanted_100 : decode prog_9_method_31_code 100 = .ok (.iastore, 1) := by decide +kernel
theorem d_Model_comePlanted_101 : decode prog_9_method_31_code 101 = .ok (.iinc 1 1, 3) := by decide +kernel
theorem d_Model_comePlanted_104 : decode prog_9_method_31_code 104 = .ok (.iinc 2 1, 3) := by decide +kernel
theorem d_Model_comePlanted_107 : decode prog_9_method_31_code 107 = .ok (.goto (-103), 3) := by decide +kernel
theorem d_Model_comePlanted_110 : decode prog_9_method_31_code 110 = .ok (.aload_n 0, 1) := by decide +kernel
theorem d_Model_comePlanted_111 : decode prog_9_method_31_code 111 = .ok (.iload_n 1, 1) := by decide +kernel
theorem d_Model_comePlanted_112 : decode prog_9_method_31_code 112 = .ok (.putfield 169, 3) := by decide +kernel
theorem d_Model_comePlanted_115 : decode prog_9_method_31_code 115 = .ok (.return_, 1) := by decide +kernel
theorem d_Model_acknowledge_0 : decode prog_9_method_33_code 0 = .ok (.aload_n 0, 1) := by decide +kernel
theorem d_Model_acknowledge_1 : decode prog_9_method_33_code 1 = .ok (.aload_n 0, 1) := by decide +kernel
theorem d_Model_acknowledge_2 : decode prog_9_method_33_code 2 = .ok (.iload_n 1, 1) := by decide +kernel
theorem d_Model_acknowledge_3 : decode prog_9_method_33_code 3 = .ok (.invokevirtual 176, 3) := by decide +kernel
theorem d_Model_acknowledge_6 : decode prog_9_method_33_code 6 = .ok (.ifCond .ne 7, 3) := by decide +kernel
theorem d_Model_acknowledge_9 : decode prog_9_method_33_code 9 = .ok (.iconst 1, 1) := by decide +kernel
theorem d_Model_acknowledge_10 : decode prog_9_method_33_code 10 = .ok (.goto 18, 3) := by decide +kernel
theorem d_Model_acknowledge_13 : decode prog_9_method_33_code 13 = .ok (.iload_n 2, 1) := by decide +kernel
theorem d_Model_acknowledge_14 : decode prog_9_method_33_code 14 = .ok (.iconst 0, 1) := by decide +kernel
theorem d_Model_acknowledge_15 : decode prog_9_method_33_code 15 = .ok (.bipush 7, 2) := by decide +kernel
theorem d_Model_acknowledge_17 : decode prog_9_method_33_code 17 = .ok (.invokestatic 111, 3) := by decide +kernel
theorem d_Model_acknowledge_20 : decode prog_9_method_33_code 20 = .ok (.ifCond .ne 7, 3) := by decide +kernel
theorem d_Model_acknowledge_23 : decode prog_9_method_33_code 23 = .ok (.iconst 2, 1) := by decide +kernel
theorem d_Model_acknowledge_24 : decode prog_9_method_33_code 24 = .ok (.goto 4, 3) := by decide +kernel
theorem d_Model_acknowledge_27 : decode prog_9_method_33_code 27 = .ok (.iconst 0, 1) := by decide +kernel
theorem d_Model_acknowledge_28 : decode prog_9_method_33_code 28 = .ok (.putfield 104, 3) := by decide +kernel
theorem d_Model_acknowledge_31 : decode prog_9_method_33_code 31 = .ok (.aload_n 0, 1) := by decide +kernel
theorem d_Model_acknowledge_32 : decode prog_9_method_33_code 32 = .ok (.getfield 104, 3) := by decide +kernel
theorem d_Model_acknowledge_35 : decode prog_9_method_33_code 35 = .ok (.ifCond .ne 22, 3) := by decide +kernel
theorem d_Model_acknowledge_38 : decode prog_9_method_33_code 38 = .ok (.aload_n 0, 1) := by decide +kernel
theorem d_Model_acknowledge_39 : decode prog_9_method_33_code 39 = .ok (.aload_n 0, 1) := by decide +kernel
theorem d_Model_acknowledge_40 : decode prog_9_method_33_code 40 = .ok (.getfield 83, 3) := by decide +kernel
theorem d_Model_acknowledge_43 : decode prog_9_method_33_code 43 = .ok (.iload_n 1, 1) := by decide +kernel
theorem d_Model_acknowledge_44 : decode prog_9_method_33_code 44 = .ok (.iaload, 1) := by decide +kernel
theorem d_Model_acknowledge_45 : decode prog_9_method_33_code 45 = .ok (.iconst (-1), 1) := by decide +kernel
theorem d_Model_acknowledge_46 : decode prog_9_method_33_code 46 = .ok (.if_icmp .eq 7, 3) := by decide +kernel
theorem d_Model_acknowledge_49 : decode prog_9_method_33_code 49 = .ok (.iconst 3, 1) := by decide +kernel
theorem d_Model_acknowledge_50 : decode prog_9_method_33_code 50 = .ok (.goto 4, 3) := by decide +kernel
theorem d_Model_acknowledge_53 : decode prog_9_method_33_code 53 = .ok (.iconst 0, 1) := by decide +kernel
theorem d_Model_acknowledge_54 : decode prog_9_method_33_code 54 = .ok (.putfield 104, 3) := by decide +kernel
theorem d_Model_acknowledge_57 : decode prog_9_method_33_code 57 = .ok (.aload_n 0, 1) := by decide +kernel
theorem d_Model_acknowledge_58 : decode prog_9_method_33_code 58 = .ok (.getfield 104, 3) := by decide +kernel
theorem d_Model_acknowledge_61 : decode prog_9_method_33_code 61 = .ok (.ifCond .le 5, 3) := by decide +kernel
theorem d_Model_acknowledge_64 : decode prog_9_method_33_code 64 = .ok (.iconst 0, 1) := by decide +kernel
theorem d_Model_acknowledge_65 : decode prog_9_method_33_code 65 = .ok (.ireturn, 1) := by decide +kernel
theorem d_Model_acknowledge_66 : decode prog_9_method_33_code 66 = .ok (.aload_n 0, 1) := by decide +kernel
theorem d_Model_acknowledge_67 : decode prog_9_method_33_code 67 = .ok (.getfield 83, 3) := by decide +kernel
theorem d_Model_acknowledge_70 : decode prog_9_method_33_code 70 = .ok (.iload_n 1, 1) := by decide +kernel
theorem d_Model_acknowledge_71 : decode prog_9_method_33_code 71 = .ok (.iload_n 2, 1) := by decide +kernel
theorem d_Model_acknowledge_72 : decode prog_9_method_33_code 72 = .ok (.iastore, 1) := by decide +kernel
theorem d_Model_acknowledge_73 : decode prog_9_method_33_code 73 = .ok (.aload_n 0, 1) := by decide +kernel
theorem d_Model_acknowledge_74 : decode prog_9_method_33_code 74 = .ok (.getfield 77, 3) := by decide +kernel
theorem d_Model_acknowledge_77 : decode prog_9_method_33_code 77 = .ok (.iload_n 1, 1) := by decide +kernel
theorem d_Model_acknowledge_78 : decode prog_9_method_33_code 78 = .ok (.iaload, 1) := by decide +kernel
theorem d_Model_acknowledge_79 : decode prog_9_method_33_code 79 = .ok (.ireturn, 1) := by decide +kernel
theorem d_Model_isAlarm_0 : decode prog_9_method_7_code 0 = .ok (.iload_n 1, 1) := by decide +kernel
theorem d_Model_isAlarm_1 : decode prog_9_method_7_code 1 = .ok (.iconst 0, 1) := by decide +kernel
theorem d_Model_isAlarm_2 : decode prog_9_method_7_code 2 = .ok (.aload_n 0, 1) := by decide +kernel
theorem d_Model_isAlarm_3 : decode prog_9_method_7_code 3 = .ok (.getfield 121, 3) := by decide +kernel
theorem d_Model_isAlarm_6 : decode prog_9_method_7_code 6 = .ok (.iconst 1, 1) := by decide +kernel
theorem d_Model_isAlarm_7 : decode prog_9_method_7_code 7 = .ok (.isub, 1) := by decide +kernel
theorem d_Model_isAlarm_8 : decode prog_9_method_7_code 8 = .ok (.invokestatic 111, 3) := by decide +kernel
theorem d_Model_isAlarm_11 : decode prog_9_method_7_code 11 = .ok (.ireturn, 1) := by decide +kernel
theorem d_Model_alarm_0 : decode prog_9_method_34_code 0 = .ok (.aload_n 0, 1) := by decide +kernel
theorem d_Model_alarm_1 : decode prog_9_method_34_code 1 = .ok (.aload_n 0, 1) := by decide +kernel
theorem d_Model_alarm_2 : decode prog_9_method_34_code 2 = .ok (.iload_n 1, 1) := by decide +kernel
theorem d_Model_alarm_3 : decode prog_9_method_34_code 3 = .ok (.invokevirtual 176, 3) := by decide +kernel
theorem d_Model_alarm_6 : decode prog_9_method_34_code 6 = .ok (.ifCond .ne 7, 3) := by decide +kernel
theorem d_Model_alarm_9 : decode prog_9_method_34_code 9 = .ok (.iconst 1, 1) := by decide +kernel
theorem d_Model_alarm_10 : decode prog_9_method_34_code 10 = .ok (.goto 18, 3) := by decide +kernel
theorem d_Model_alarm_13 : decode prog_9_method_34_code 13 = .ok (.iload_n 2, 1) := by decide +kernel
theorem d_Model_alarm_14 : decode prog_9_method_34_code 14 = .ok (.iconst 0, 1) := by decide +kernel
theorem d_Model_alarm_15 : decode prog_9_method_34_code 15 = .ok (.bipush 6, 2) := by decide +kernel
theorem d_Model_alarm_17 : decode prog_9_method_34_code 17 = .ok (.invokestatic 111, 3) := by decide +kernel
theorem d_Model_alarm_20 : decode prog_9_method_34_code 20 = .ok (.ifCond .ne 7, 3) := by decide +kernel
theorem d_Model_alarm_23 : decode prog_9_method_34_code 23 = .ok (.iconst 2, 1) := by decide +kernel
theorem d_Model_alarm_24 : decode prog_9_method_34_code 24 = .ok (.goto 4, 3) := by decide +kernel
theorem d_Model_alarm_27 : decode prog_9_method_34_code 27 = .ok (.iconst 0, 1) := by decide +kernel
theorem d_Model_alarm_28 : decode prog_9_method_34_code 28 = .ok (.putfield 104, 3) := by decide +kernel
theorem d_Model_alarm_31 : decode prog_9_method_34_code 31 = .ok (.aload_n 0, 1) := by decide +kernel
theorem d_Model_alarm_32 : decode prog_9_method_34_code 32 = .ok (.getfield 104, 3) := by decide +kernel
theorem d_Model_alarm_35 : decode prog_9_method_34_code 35 = .ok (.ifCond .le 5, 3) := by decide +kernel
theorem d_Model_alarm_38 : decode prog_9_method_34_code 38 = .ok (.iconst 0, 1) := by decide +kernel
theorem d_Model_alarm_39 : decode prog_9_method_34_code 39 = .ok (.ireturn, 1) := by decide +kernel
theorem d_Model_alarm_40 : decode prog_9_method_34_code 40 = .ok (.iload_n 2, 1) := by decide +kernel
theorem d_Model_alarm_41 : decode prog_9_method_34_code 41 = .ok (.ifCond .ne 10, 3) := by decide +kernel
theorem d_Model_alarm_44 : decode prog_9_method_34_code 44 = .ok (.aload_n 0, 1) := by decide +kernel
theorem d_Model_alarm_45 : decode prog_9_method_34_code 45 = .ok (.getfield 68, 3) := by decide +kernel
theorem d_Model_alarm_48 : decode prog_9_method_34_code 48 = .ok (.iload_n 1, 1) := by decide +kernel
theorem d_Model_alarm_49 : decode prog_9_method_34_code 49 = .ok (.iaload, 1) := by decide +kernel
theorem d_Model_alarm_50 : decode prog_9_method_34_code 50 = .ok (.ireturn, 1) := by decide +kernel
theorem d_Model_alarm_51 : decode prog_9_method_34_code 51 = .ok (.iload_n 2, 1) := by decide +kernel
theorem d_Model_alarm_52 : decode prog_9_method_34_code 52 = .ok (.iconst 1, 1) := by decide +kernel
theorem d_Model_alarm_53 : decode prog_9_method_34_code 53 = .ok (.if_icmp .ne 10, 3) := by decide +kernel
theorem d_Model_alarm_56 : decode prog_9_method_34_code 56 = .ok (.aload_n 0, 1) := by decide +kernel
theorem d_Model_alarm_57 : decode prog_9_method_34_code 57 = .ok (.getfield 71, 3) := by decide +kernel
theorem d_Model_alarm_60 : decode prog_9_method_34_code 60 = .ok (.iload_n 1, 1) := by decide +kernel
theorem d_Model_alarm_61 : decode prog_9_method_34_code 61 = .ok (.iaload, 1) := by decide +kernel
theorem d_Model_alarm_62 : decode prog_9_method_34_code 62 = .ok (.ireturn, 1) := by decide +kernel
theorem d_Model_alarm_63 : decode prog_9_method_34_code 63 = .ok (.iload_n 2, 1) := by decide +kernel
theorem d_Model_alarm_64 : decode prog_9_method_34_code 64 = .ok (.iconst 2, 1) := by decide +kernel
theorem d_Model_alarm_65 : decode prog_9_method_34_code 65 = .ok (.if_icmp .ne 10, 3) := by decide +kernel
theorem d_Model_alarm_68 : decode prog_9_method_34_code 68 = .ok (.aload_n 0, 1) := by decide +kernel
theorem d_Model_alarm_69 : decode prog_9_method_34_code 69 = .ok (.getfield 74, 3) := by decide +kernel
theorem d_Model_alarm_72 : decode prog_9_method_34_code 72 = .ok (.iload_n 1, 1) := by decide +kernel
theorem d_Model_alarm_73 : decode prog_9_method_34_code 73 = .ok (.iaload, 1) := by decide +kernel
theorem d_Model_alarm_74 : decode prog_9_method_34_code 74 = .ok (.ireturn, 1) := by decide +kernel
theorem d_Model_alarm_75 : decode prog_9_method_34_code 75 = .ok (.iload_n 2, 1) := by decide +kernel
theorem d_Model_alarm_76 : decode prog_9_method_34_code 76 = .ok (.iconst 3, 1) := by decide +kernel
theorem d_Model_alarm_77 : decode prog_9_method_34_code 77 = .ok (.if_icmp .ne 10, 3) := by decide +kernel
theorem d_Model_alarm_80 : decode prog_9_method_34_code 80 = .ok (.aload_n 0, 1) := by decide +kernel
theorem d_Model_alarm_81 : decode prog_9_method_34_code 81 = .ok (.getfield 77, 3) := by decide +kernel
theorem d_Model_alarm_84 : decode prog_9_method_34_code 84 = .ok (.iload_n 1, 1) := by decide +kernel
theorem d_Model_alarm_85 : decode prog_9_method_34_code 85 = .ok (.iaload, 1) := by decide +kernel
theorem d_Model_alarm_86 : decode prog_9_method_34_code 86 = .ok (.ireturn, 1) := by decide +kernel
theorem d_Model_alarm_87 : decode prog_9_method_34_code 87 = .ok (.iload_n 2, 1) := by decide +kernel
theorem d_Model_alarm_88 : decode prog_9_method_34_code 88 = .ok (.iconst 4, 1) := by decide +kernel
theorem d_Model_alarm_89 : decode prog_9_method_34_code 89 = .ok (.if_icmp .ne 12, 3) := by decide +kernel
theorem d_Model_alarm_92 : decode prog_9_method_34_code 92 = .ok (.aload_n 0, 1) := by decide +kernel
theorem d_Model_alarm_93 : decode prog_9_method_34_code 93 = .ok (.getfield 80, 3) := by decide +kernel
theorem d_Model_alarm_96 : decode prog_9_method_34_code 96 = .ok (.iload_n 1, 1) := by decide +kernel
theorem d_Model_alarm_97 : decode prog_9_method_34_code 97 = .ok (.iaload, 1) := by decide +kernel
theorem d_Model_alarm_98 : decode prog_9_method_34_code 98 = .ok (.goto 23, 3) := by decide +kernel
theorem d_Model_alarm_101 : decode prog_9_method_34_code 101 = .ok (.iload_n 2, 1) := by decide +kernel
theorem d_Model_alarm_102 : decode prog_9_method_34_code 102 = .ok (.iconst 5, 1) := by decide +kernel
theorem d_Model_alarm_103 : decode prog_9_method_34_code 103 = .ok (.if_icmp .ne 12, 3) := by decide +kernel
theorem d_Model_alarm_106 : decode prog_9_method_34_code 106 = .ok (.aload_n 0, 1) := by decide +kernel
theorem d_Model_alarm_107 : decode prog_9_method_34_code 107 = .ok (.getfield 83, 3) := by decide +kernel
theorem d_Model_alarm_110 : decode prog_9_method_34_code 110 = .ok (.iload_n 1, 1) := by decide +kernel
theorem d_Model_alarm_111 : decode prog_9_method_34_code 111 = .ok (.iaload, 1) := by decide +kernel
theorem d_Model_alarm_112 : decode prog_9_method_34_code 112 = .ok (.goto 9, 3) := by decide +kernel
theorem d_Model_alarm_115 : decode prog_9_method_34_code 115 = .ok (.aload_n 0, 1) := by decide +kernel
theorem d_Model_alarm_116 : decode prog_9_method_34_code 116 = .ok (.getfield 86, 3) := by decide +kernel
theorem d_Model_alarm_119 : decode prog_9_method_34_code 119 = .ok (.iload_n 1, 1) := by decide +kernel
theorem d_Model_alarm_120 : decode prog_9_method_34_code 120 = .ok (.iaload, 1) := by decide +kernel
theorem d_Model_alarm_121 : decode prog_9_method_34_code 121 = .ok (.ireturn, 1) := by decide +kernel
theorem d_Model_first_0 : decode prog_9_method_35_code 0 = .ok (.aload_n 0, 1) := by decide +kernel
theorem d_Model_first_1 : decode prog_9_method_35_code 1 = .ok (.iconst 0, 1) := by decide +kernel
theorem d_Model_first_2 : decode prog_9_method_35_code 2 = .ok (.putfield 104, 3) := by decide +kernel
theorem d_Model_first_5 : decode prog_9_method_35_code 5 = .ok (.iconst (-1), 1) := by decide +kernel
theorem d_Model_first_6 : decode prog_9_method_35_code 6 = .ok (.istore_n 1, 1) := by decide +kernel
theorem d_Model_first_7 : decode prog_9_method_35_code 7 = .ok (.iconst 0, 1) := by decide +kernel
theorem d_Model_first_8 : decode prog_9_method_35_code 8 = .ok (.istore_n 2, 1) := by decide +kernel
theorem d_Model_first_9 : decode prog_9_method_35_code 9 = .ok (.iload_n 2, 1) := by decide +kernel
theorem d_Model_first_10 : decode prog_9_method_35_code 10 = .ok (.aload_n 0, 1) := by decide +kernel
theorem d_Model_first_11 : decode prog_9_method_35_code 11 = .ok (.getfield 121, 3) := by decide +kernel
theorem d_Model_first_14 : decode prog_9_method_35_code 14 = .ok (.if_icmp .ge 74, 3) := by decide +kernel
theorem d_Model_first_17 : decode prog_9_method_35_code 17 = .ok (.aload_n 0, 1) := by decide +kernel
theorem d_Model_first_18 : decode prog_9_method_35_code 18 = .ok (.getfield 83, 3) := by decide +kernel
theorem d_Model_first_21 : decode prog_9_method_35_code 21 = .ok (.iload_n 2, 1) := by decide +kernel
theorem d_Model_first_22 : decode prog_9_method_35_code 22 = .ok (.iaload, 1) := by decide +kernel
theorem d_Model_first_23 : decode prog_9_method_35_code 23 = .ok (.iconst (-1), 1) := by decide +kernel
theorem d_Model_first_24 : decode prog_9_method_35_code 24 = .ok (.if_icmp .eq 6, 3) := by decide +kernel
theorem d_Model_first_27 : decode prog_9_method_35_code 27 = .ok (.goto 55, 3) := by decide +kernel
theorem d_Model_first_30 : decode prog_9_method_35_code 30 = .ok (.iload_n 1, 1) := by decide +kernel
theorem d_Model_first_31 : decode prog_9_method_35_code 31 = .ok (.iconst (-1), 1) := by decide +kernel
theorem d_Model_first_32 : decode prog_9_method_35_code 32 = .ok (.if_icmp .eq 48, 3) := by decide +kernel
theorem d_Model_first_35 : decode prog_9_method_35_code 35 = .ok (.aload_n 0, 1) := by decide +kernel
theorem d_Model_first_36 : decode prog_9_method_35_code 36 = .ok (.getfield 77, 3) := by decide +kernel
theorem d_Model_first_39 : decode prog_9_method_35_code 39 = .ok (.iload_n 2, 1) := by decide +kernel
theorem d_Model_first_40 : decode prog_9_method_35_code 40 = .ok (.iaload, 1) := by decide +kernel
theorem d_Model_first_41 : decode prog_9_method_35_code 41 = .ok (.aload_n 0, 1) := by decide +kernel
theorem d_Model_first_42 : decode prog_9_method_35_code 42 = .ok (.getfield 77, 3) := by decide +kernel
theorem d_Model_first_45 : decode prog_9_method_35_code 45 = .ok (.iload_n 1, 1) := by decide +kernel
theorem d_Model_first_46 : decode prog_9_method_35_code 46 = .ok (.iaload, 1) := by decide +kernel
theorem d_Model_first_47 : decode prog_9_method_35_code 47 = .ok (.if_icmp .gt 33, 3) := by decide +kernel
theorem d_Model_first_50 : decode prog_9_method_35_code 50 = .ok (.aload_n 0, 1) := by decide +kernel
theorem d_Model_first_51 : decode prog_9_method_35_code 51 = .ok (.getfield 77, 3) := by decide +kernel
theorem d_Model_first_54 : decode prog_9_method_35_code 54 = .ok (.iload_n 2, 1) := by decide +kernel
theorem d_Model_first_55 : decode prog_9_method_35_code 55 = .ok (.iaload, 1) := by decide +kernel
theorem d_Model_first_56 : decode prog_9_method_35_code 56 = .ok (.aload_n 0, 1) := by decide +kernel
theorem d_Model_first_57 : decode prog_9_method_35_code 57 = .ok (.getfield 77, 3) := by decide +kernel
theorem d_Model_first_60 : decode prog_9_method_35_code 60 = .ok (.iload_n 1, 1) := by decide +kernel
theorem d_Model_first_61 : decode prog_9_method_35_code 61 = .ok (.iaload, 1) := by decide +kernel
theorem d_Model_first_62 : decode prog_9_method_35_code 62 = .ok (.if_icmp .ne 20, 3) := by decide +kernel
theorem d_Model_first_65 : decode prog_9_method_35_code 65 = .ok (.aload_n 0, 1) := by decide +kernel
theorem d_Model_first_66 : decode prog_9_method_35_code 66 = .ok (.getfield 74, 3) := by decide +kernel
theorem d_Model_first_69 : decode prog_9_method_35_code 69 = .ok (.iload_n 2, 1) := by decide +kernel
theorem d_Model_first_70 : decode prog_9_method_35_code 70 = .ok (.iaload, 1) := by decide +kernel
theorem d_Model_first_71 : decode prog_9_method_35_code 71 = .ok (.aload_n 0, 1) := by decide +kernel
theorem d_Model_first_72 : decode prog_9_method_35_code 72 = .ok (.getfield 74, 3) := by decide +kernel
theorem d_Model_first_75 : decode prog_9_method_35_code 75 = .ok (.iload_n 1, 1) := by decide +kernel
theorem d_Model_first_76 : decode prog_9_method_35_code 76 = .ok (.iaload, 1) := by decide +kernel
theorem d_Model_first_77 : decode prog_9_method_35_code 77 = .ok (.if_icmp .ge 5, 3) := by decide +kernel
theorem d_Model_first_80 : decode prog_9_method_35_code 80 = .ok (.iload_n 2, 1) := by decide +kernel
theorem d_Model_first_81 : decode prog_9_method_35_code 81 = .ok (.istore_n 1, 1) := by decide +kernel
theorem d_Model_first_82 : decode prog_9_method_35_code 82 = .ok (.iinc 2 1, 3) := by decide +kernel
theorem d_Model_first_85 : decode prog_9_method_35_code 85 = .ok (.goto (-76), 3) := by decide +kernel
theorem d_Model_first_88 : decode prog_9_method_35_code 88 = .ok (.iload_n 1, 1) := by decide +kernel
theorem d_Model_first_89 : decode prog_9_method_35_code 89 = .ok (.ireturn, 1) := by decide +kernel
theorem d_Model_known_0 : decode prog_9_method_36_code 0 = .ok (.aload_n 0, 1) := by decide +kernel
theorem d_Model_known_1 : decode prog_9_method_36_code 1 = .ok (.aload_n 0, 1) := by decide +kernel
theorem d_Model_known_2 : decode prog_9_method_36_code 2 = .ok (.iload_n 1, 1) := by decide +kernel
theorem d_Model_known_3 : decode prog_9_method_36_code 3 = .ok (.invokevirtual 151, 3) := by decide +kernel
theorem d_Model_known_6 : decode prog_9_method_36_code 6 = .ok (.ifCond .ne 7, 3) := by decide +kernel
theorem d_Model_known_9 : decode prog_9_method_36_code 9 = .ok (.iconst 1, 1) := by decide +kernel
theorem d_Model_known_10 : decode prog_9_method_36_code 10 = .ok (.goto 18, 3) := by decide +kernel
theorem d_Model_known_13 : decode prog_9_method_36_code 13 = .ok (.iload_n 2, 1) := by decide +kernel
theorem d_Model_known_14 : decode prog_9_method_36_code 14 = .ok (.iconst 0, 1) := by decide +kernel
theorem d_Model_known_15 : decode prog_9_method_36_code 15 = .ok (.bipush 8, 2) := by decide +kernel
theorem d_Model_known_17 : decode prog_9_method_36_code 17 = .ok (.invokestatic 111, 3) := by decide +kernel
theorem d_Model_known_20 : decode prog_9_method_36_code 20 = .ok (.ifCond .ne 7, 3) := by decide +kernel
theorem d_Model_known_23 : decode prog_9_method_36_code 23 = .ok (.iconst 2, 1) := by decide +kernel
theorem d_Model_known_24 : decode prog_9_method_36_code 24 = .ok (.goto 4, 3) := by decide +kernel
theorem d_Model_known_27 : decode prog_9_method_36_code 27 = .ok (.iconst 0, 1) := by decide +kernel
theorem d_Model_known_28 : decode prog_9_method_36_code 28 = .ok (.putfield 104, 3) := by decide +kernel
theorem d_Model_known_31 : decode prog_9_method_36_code 31 = .ok (.aload_n 0, 1) := by decide +kernel
theorem d_Model_known_32 : decode prog_9_method_36_code 32 = .ok (.getfield 104, 3) := by decide +kernel
theorem d_Model_known_35 : decode prog_9_method_36_code 35 = .ok (.ifCond .le 5, 3) := by decide +kernel
theorem d_Model_known_38 : decode prog_9_method_36_code 38 = .ok (.iconst 0, 1) := by decide +kernel
theorem d_Model_known_39 : decode prog_9_method_36_code 39 = .ok (.ireturn, 1) := by decide +kernel
theorem d_Model_known_40 : decode prog_9_method_36_code 40 = .ok (.iload_n 2, 1) := by decide +kernel
theorem d_Model_known_41 : decode prog_9_method_36_code 41 = .ok (.ifCond .ne 10, 3) := by decide +kernel
theorem d_Model_known_44 : decode prog_9_method_36_code 44 = .ok (.aload_n 0, 1) := by decide +kernel
theorem d_Model_known_45 : decode prog_9_method_36_code 45 = .ok (.getfield 38, 3) := by decide +kernel
theorem d_Model_known_48 : decode prog_9_method_36_code 48 = .ok (.iload_n 1, 1) := by decide +kernel
theorem d_Model_known_49 : decode prog_9_method_36_code 49 = .ok (.iaload, 1) := by decide +kernel
theorem d_Model_known_50 : decode prog_9_method_36_code 50 = .ok (.ireturn, 1) := by decide +kernel
theorem d_Model_known_51 : decode prog_9_method_36_code 51 = .ok (.iload_n 2, 1) := by decide +kernel
theorem d_Model_known_52 : decode prog_9_method_36_code 52 = .ok (.iconst 1, 1) := by decide +kernel
theorem d_Model_known_53 : decode prog_9_method_36_code 53 = .ok (.if_icmp .ne 10, 3) := by decide +kernel
theorem d_Model_known_56 : decode prog_9_method_36_code 56 = .ok (.aload_n 0, 1) := by decide +kernel
theorem d_Model_known_57 : decode prog_9_method_36_code 57 = .ok (.getfield 41, 3) := by decide +kernel
theorem d_Model_known_60 : decode prog_9_method_36_code 60 = .ok (.iload_n 1, 1) := by decide +kernel
theorem d_Model_known_61 : decode prog_9_method_36_code 61 = .ok (.iaload, 1) := by decide +kernel
theorem d_Model_known_62 : decode prog_9_method_36_code 62 = .ok (.ireturn, 1) := by decide +kernel
theorem d_Model_known_63 : decode prog_9_method_36_code 63 = .ok (.iload_n 2, 1) := by decide +kernel
theorem d_Model_known_64 : decode prog_9_method_36_code 64 = .ok (.iconst 2, 1) := by decide +kernel
theorem d_Model_known_65 : decode prog_9_method_36_code 65 = .ok (.if_icmp .ne 10, 3) := by decide +kernel
theorem d_Model_known_68 : decode prog_9_method_36_code 68 = .ok (.aload_n 0, 1) := by decide +kernel
theorem d_Model_known_69 : decode prog_9_method_36_code 69 = .ok (.getfield 44, 3) := by decide +kernel
theorem d_Model_known_72 : decode prog_9_method_36_code 72 = .ok (.iload_n 1, 1) := by decide +kernel
theorem d_Model_known_73 : decode prog_9_method_36_code 73 = .ok (.iaload, 1) := by decide +kernel
theorem d_Model_known_74 : decode prog_9_method_36_code 74 = .ok (.ireturn, 1) := by decide +kernel
theorem d_Model_known_75 : decode prog_9_method_36_code 75 = .ok (.iload_n 2, 1) := by decide +kernel
theorem d_Model_known_76 : decode prog_9_method_36_code 76 = .ok (.iconst 3, 1) := by decide +kernel
theorem d_Model_known_77 : decode prog_9_method_36_code 77 = .ok (.if_icmp .ne 10, 3) := by decide +kernel
theorem d_Model_known_80 : decode prog_9_method_36_code 80 = .ok (.aload_n 0, 1) := by decide +kernel
theorem d_Model_known_81 : decode prog_9_method_36_code 81 = .ok (.getfield 47, 3) := by decide +kernel
theorem d_Model_known_84 : decode prog_9_method_36_code 84 = .ok (.iload_n 1, 1) := by decide +kernel
theorem d_Model_known_85 : decode prog_9_method_36_code 85 = .ok (.iaload, 1) := by decide +kernel
theorem d_Model_known_86 : decode prog_9_method_36_code 86 = .ok (.ireturn, 1) := by decide +kernel
theorem d_Model_known_87 : decode prog_9_method_36_code 87 = .ok (.iload_n 2, 1) := by decide +kernel
theorem d_Model_known_88 : decode prog_9_method_36_code 88 = .ok (.iconst 4, 1) := by decide +kernel
theorem d_Model_known_89 : decode prog_9_method_36_code 89 = .ok (.if_icmp .ne 10, 3) := by decide +kernel
theorem d_Model_known_92 : decode prog_9_method_36_code 92 = .ok (.aload_n 0, 1) := by decide +kernel
theorem d_Model_known_93 : decode prog_9_method_36_code 93 = .ok (.getfield 50, 3) := by decide +kernel
theorem d_Model_known_96 : decode prog_9_method_36_code 96 = .ok (.iload_n 1, 1) := by decide +kernel
theorem d_Model_known_97 : decode prog_9_method_36_code 97 = .ok (.iaload, 1) := by decide +kernel
theorem d_Model_known_98 : decode prog_9_method_36_code 98 = .ok (.ireturn, 1) := by decide +kernel
theorem d_Model_known_99 : decode prog_9_method_36_code 99 = .ok (.iload_n 2, 1) := by decide +kernel
theorem d_Model_known_100 : decode prog_9_method_36_code 100 = .ok (.iconst 5, 1) := by decide +kernel
theorem d_Model_known_101 : decode prog_9_method_36_code 101 = .ok (.if_icmp .ne 10, 3) := by decide +kernel
theorem d_Model_known_104 : decode prog_9_method_36_code 104 = .ok (.aload_n 0, 1) := by decide +kernel
theorem d_Model_known_105 : decode prog_9_method_36_code 105 = .ok (.getfield 53, 3) := by decide +kernel
theorem d_Model_known_108 : decode prog_9_method_36_code 108 = .ok (.iload_n 1, 1) := by decide +kernel
theorem d_Model_known_109 : decode prog_9_method_36_code 109 = .ok (.iaload, 1) := by decide +kernel
theorem d_Model_known_110 : decode prog_9_method_36_code 110 = .ok (.ireturn, 1) := by decide +kernel
theorem d_Model_known_111 : decode prog_9_method_36_code 111 = .ok (.iload_n 2, 1) := by decide +kernel
theorem d_Model_known_112 : decode prog_9_method_36_code 112 = .ok (.bipush 6, 2) := by decide +kernel
theorem d_Model_known_114 : decode prog_9_method_36_code 114 = .ok (.if_icmp .ne 20, 3) := by decide +kernel
theorem d_Model_known_117 : decode prog_9_method_36_code 117 = .ok (.aload_n 0, 1) := by decide +kernel
theorem d_Model_known_118 : decode prog_9_method_36_code 118 = .ok (.getfield 59, 3) := by decide +kernel
theorem d_Model_known_121 : decode prog_9_method_36_code 121 = .ok (.iload_n 1, 1) := by decide +kernel
theorem d_Model_known_122 : decode prog_9_method_36_code 122 = .ok (.baload, 1) := by decide +kernel
theorem d_Model_known_123 : decode prog_9_method_36_code 123 = .ok (.ifCond .eq 7, 3) := by decide +kernel
theorem d_Model_known_126 : decode prog_9_method_36_code 126 = .ok (.iconst 1, 1) := by decide +kernel
theorem d_Model_known_127 : decode prog_9_method_36_code 127 = .ok (.goto 28, 3) := by decide +kernel
theorem d_Model_known_130 : decode prog_9_method_36_code 130 = .ok (.iconst 0, 1) := by decide +kernel
theorem d_Model_known_131 : decode prog_9_method_36_code 131 = .ok (.goto 24, 3) := by decide +kernel
theorem d_Model_known_134 : decode prog_9_method_36_code 134 = .ok (.iload_n 2, 1) := by decide +kernel
theorem d_Model_known_135 : decode prog_9_method_36_code 135 = .ok (.bipush 7, 2) := by decide +kernel
theorem d_Model_known_137 : decode prog_9_method_36_code 137 = .ok (.if_icmp .ne 12, 3) := by decide +kernel
theorem d_Model_known_140 : decode prog_9_method_36_code 140 = .ok (.aload_n 0, 1) := by decide +kernel
theorem d_Model_known_141 : decode prog_9_method_36_code 141 = .ok (.getfield 62, 3) := by decide +kernel
theorem d_Model_known_144 : decode prog_9_method_36_code 144 = .ok (.iload_n 1, 1) := by decide +kernel
theorem d_Model_known_145 : decode prog_9_method_36_code 145 = .ok (.iaload, 1) := by decide +kernel
theorem d_Model_known_146 : decode prog_9_method_36_code 146 = .ok (.goto 9, 3) := by decide +kernel
theorem d_Model_known_149 : decode prog_9_method_36_code 149 = .ok (.aload_n 0, 1) := by decide +kernel
theorem d_Model_known_150 : decode prog_9_method_36_code 150 = .ok (.getfield 65, 3) := by decide +kernel
theorem d_Model_known_153 : decode prog_9_method_36_code 153 = .ok (.iload_n 1, 1) := by decide +kernel
theorem d_Model_known_154 : decode prog_9_method_36_code 154 = .ok (.iaload, 1) := by decide +kernel
theorem d_Model_known_155 : decode prog_9_method_36_code 155 = .ok (.ireturn, 1) := by decide +kernel
theorem d_Model_told_0 : decode prog_9_method_37_code 0 = .ok (.aload_n 0, 1) := by decide +kernel
theorem d_Model_told_1 : decode prog_9_method_37_code 1 = .ok (.aload_n 0, 1) := by decide +kernel
theorem d_Model_told_2 : decode prog_9_method_37_code 2 = .ok (.iload_n 1, 1) := by decide +kernel
theorem d_Model_told_3 : decode prog_9_method_37_code 3 = .ok (.invokevirtual 131, 3) := by decide +kernel
theorem d_Model_told_6 : decode prog_9_method_37_code 6 = .ok (.ifCond .ne 7, 3) := by decide +kernel
theorem d_Model_told_9 : decode prog_9_method_37_code 9 = .ok (.iconst 1, 1) := by decide +kernel
theorem d_Model_told_10 : decode prog_9_method_37_code 10 = .ok (.goto 17, 3) := by decide +kernel
theorem d_Model_told_13 : decode prog_9_method_37_code 13 = .ok (.iload_n 2, 1) := by decide +kernel
theorem d_Model_told_14 : decode prog_9_method_37_code 14 = .ok (.iconst 0, 1) := by decide +kernel
theorem d_Model_told_15 : decode prog_9_method_37_code 15 = .ok (.iconst 4, 1) := by decide +kernel
theorem d_Model_told_16 : decode prog_9_method_37_code 16 = .ok (.invokestatic 111, 3) := by decide +kernel
theorem d_Model_told_19 : decode prog_9_method_37_code 19 = .ok (.ifCond .ne 7, 3) := by decide +kernel
theorem d_Model_told_22 : decode prog_9_method_37_code 22 = .ok (.iconst 2, 1) := by decide +kernel
theorem d_Model_told_23 : decode prog_9_method_37_code 23 = .ok (.goto 4, 3) := by decide +kernel
theorem d_Model_told_26 : decode prog_9_method_37_code 26 = .ok (.iconst 0, 1) := by decide +kernel
theorem d_Model_told_27 : decode prog_9_method_37_code 27 = .ok (.putfield 104, 3) := by decide +kernel
theorem d_Model_told_30 : decode prog_9_method_37_code 30 = .ok (.aload_n 0, 1) := by decide +kernel
theorem d_Model_told_31 : decode prog_9_method_37_code 31 = .ok (.getfield 104, 3) := by decide +kernel
theorem d_Model_told_34 : decode prog_9_method_37_code 34 = .ok (.ifCond .le 5, 3) := by decide +kernel
theorem d_Model_told_37 : decode prog_9_method_37_code 37 = .ok (.iconst 0, 1) := by decide +kernel
theorem d_Model_told_38 : decode prog_9_method_37_code 38 = .ok (.ireturn, 1) := by decide +kernel
theorem d_Model_told_39 : decode prog_9_method_37_code 39 = .ok (.iload_n 2, 1) := by decide +kernel
theorem d_Model_told_40 : decode prog_9_method_37_code 40 = .ok (.ifCond .ne 10, 3) := by decide +kernel
theorem d_Model_told_43 : decode prog_9_method_37_code 43 = .ok (.aload_n 0, 1) := by decide +kernel
theorem d_Model_told_44 : decode prog_9_method_37_code 44 = .ok (.getfield 20, 3) := by decide +kernel
theorem d_Model_told_47 : decode prog_9_method_37_code 47 = .ok (.iload_n 1, 1) := by decide +kernel
theorem d_Model_told_48 : decode prog_9_method_37_code 48 = .ok (.iaload, 1) := by decide +kernel
theorem d_Model_told_49 : decode prog_9_method_37_code 49 = .ok (.ireturn, 1) := by decide +kernel
theorem d_Model_told_50 : decode prog_9_method_37_code 50 = .ok (.iload_n 2, 1) := by decide +kernel
theorem d_Model_told_51 : decode prog_9_method_37_code 51 = .ok (.iconst 1, 1) := by decide +kernel
theorem d_Model_told_52 : decode prog_9_method_37_code 52 = .ok (.if_icmp .ne 10, 3) := by decide +kernel
theorem d_Model_told_55 : decode prog_9_method_37_code 55 = .ok (.aload_n 0, 1) := by decide +kernel
theorem d_Model_told_56 : decode prog_9_method_37_code 56 = .ok (.getfield 13, 3) := by decide +kernel
theorem d_Model_told_59 : decode prog_9_method_37_code 59 = .ok (.iload_n 1, 1) := by decide +kernel
theorem d_Model_told_60 : decode prog_9_method_37_code 60 = .ok (.iaload, 1) := by decide +kernel
theorem d_Model_told_61 : decode prog_9_method_37_code 61 = .ok (.ireturn, 1) := by decide +kernel
theorem d_Model_told_62 : decode prog_9_method_37_code 62 = .ok (.iload_n 2, 1) := by decide +kernel
theorem d_Model_told_63 : decode prog_9_method_37_code 63 = .ok (.iconst 2, 1) := by decide +kernel
theorem d_Model_told_64 : decode prog_9_method_37_code 64 = .ok (.if_icmp .ne 10, 3) := by decide +kernel
theorem d_Model_told_67 : decode prog_9_method_37_code 67 = .ok (.aload_n 0, 1) := by decide +kernel
theorem d_Model_told_68 : decode prog_9_method_37_code 68 = .ok (.getfield 17, 3) := by decide +kernel
theorem d_Model_told_71 : decode prog_9_method_37_code 71 = .ok (.iload_n 1, 1) := by decide +kernel
theorem d_Model_told_72 : decode prog_9_method_37_code 72 = .ok (.iaload, 1) := by decide +kernel
theorem d_Model_told_73 : decode prog_9_method_37_code 73 = .ok (.ireturn, 1) := by decide +kernel
theorem d_Model_told_74 : decode prog_9_method_37_code 74 = .ok (.iload_n 2, 1) := by decide +kernel
theorem d_Model_told_75 : decode prog_9_method_37_code 75 = .ok (.iconst 3, 1) := by decide +kernel
theorem d_Model_told_76 : decode prog_9_method_37_code 76 = .ok (.if_icmp .ne 11, 3) := by decide +kernel
theorem d_Model_told_79 : decode prog_9_method_37_code 79 = .ok (.aload_n 0, 1) := by decide +kernel
theorem d_Model_told_80 : decode prog_9_method_37_code 80 = .ok (.iload_n 1, 1) := by decide +kernel
theorem d_Model_told_81 : decode prog_9_method_37_code 81 = .ok (.invokevirtual 158, 3) := by decide +kernel
theorem d_Model_told_84 : decode prog_9_method_37_code 84 = .ok (.goto 17, 3) := by decide +kernel
theorem d_Model_told_87 : decode prog_9_method_37_code 87 = .ok (.aload_n 0, 1) := by decide +kernel
theorem d_Model_told_88 : decode prog_9_method_37_code 88 = .ok (.getfield 23, 3) := by decide +kernel
theorem d_Model_told_91 : decode prog_9_method_37_code 91 = .ok (.iload_n 1, 1) := by decide +kernel
theorem d_Model_told_92 : decode prog_9_method_37_code 92 = .ok (.baload, 1) := by decide +kernel
theorem d_Model_told_93 : decode prog_9_method_37_code 93 = .ok (.ifCond .eq 7, 3) := by decide +kernel
theorem d_Model_told_96 : decode prog_9_method_37_code 96 = .ok (.iconst 1, 1) := by decide +kernel
theorem d_Model_told_97 : decode prog_9_method_37_code 97 = .ok (.goto 4, 3) := by decide +kernel
theorem d_Model_told_100 : decode prog_9_method_37_code 100 = .ok (.iconst 0, 1) := by decide +kernel
theorem d_Model_told_101 : decode prog_9_method_37_code 101 = .ok (.ireturn, 1) := by decide +kernel
theorem d_Model_count_0 : decode prog_9_method_38_code 0 = .ok (.aload_n 0, 1) := by decide +kernel
theorem d_Model_count_1 : decode prog_9_method_38_code 1 = .ok (.iconst 0, 1) := by decide +kernel
theorem d_Model_count_2 : decode prog_9_method_38_code 2 = .ok (.putfield 104, 3) := by decide +kernel
theorem d_Model_count_5 : decode prog_9_method_38_code 5 = .ok (.iload_n 1, 1) := by decide +kernel
theorem d_Model_count_6 : decode prog_9_method_38_code 6 = .ok (.ifCond .ne 8, 3) := by decide +kernel
theorem d_Model_count_9 : decode prog_9_method_38_code 9 = .ok (.aload_n 0, 1) := by decide +kernel
theorem d_Model_count_10 : decode prog_9_method_38_code 10 = .ok (.getfield 108, 3) := by decide +kernel
theorem d_Model_count_13 : decode prog_9_method_38_code 13 = .ok (.ireturn, 1) := by decide +kernel
theorem d_Model_count_14 : decode prog_9_method_38_code 14 = .ok (.iload_n 1, 1) := by decide +kernel
theorem d_Model_count_15 : decode prog_9_method_38_code 15 = .ok (.iconst 1, 1) := by decide +kernel
theorem d_Model_count_16 : decode prog_9_method_38_code 16 = .ok (.if_icmp .ne 8, 3) := by decide +kernel
theorem d_Model_count_19 : decode prog_9_method_38_code 19 = .ok (.aload_n 0, 1) := by decide +kernel
theorem d_Model_count_20 : decode prog_9_method_38_code 20 = .ok (.getfield 115, 3) := by decide +kernel
theorem d_Model_count_23 : decode prog_9_method_38_code 23 = .ok (.ireturn, 1) := by decide +kernel
theorem d_Model_count_24 : decode prog_9_method_38_code 24 = .ok (.iload_n 1, 1) := by decide +kernel
theorem d_Model_count_25 : decode prog_9_method_38_code 25 = .ok (.iconst 2, 1) := by decide +kernel
theorem d_Model_count_26 : decode prog_9_method_38_code 26 = .ok (.if_icmp .ne 8, 3) := by decide +kernel
theorem d_Model_count_29 : decode prog_9_method_38_code 29 = .ok (.aload_n 0, 1) := by decide +kernel
theorem d_Model_count_30 : decode prog_9_method_38_code 30 = .ok (.getfield 118, 3) := by decide +kernel
theorem d_Model_count_33 : decode prog_9_method_38_code 33 = .ok (.ireturn, 1) := by decide +kernel
theorem d_Model_count_34 : decode prog_9_method_38_code 34 = .ok (.iload_n 1, 1) := by decide +kernel
theorem d_Model_count_35 : decode prog_9_method_38_code 35 = .ok (.iconst 4, 1) := by decide +kernel
theorem d_Model_count_36 : decode prog_9_method_38_code 36 = .ok (.if_icmp .ne 8, 3) := by decide +kernel
theorem d_Model_count_39 : decode prog_9_method_38_code 39 = .ok (.aload_n 0, 1) := by decide +kernel
theorem d_Model_count_40 : decode prog_9_method_38_code 40 = .ok (.getfield 121, 3) := by decide +kernel
theorem d_Model_count_43 : decode prog_9_method_38_code 43 = .ok (.ireturn, 1) := by decide +kernel
theorem d_Model_count_44 : decode prog_9_method_38_code 44 = .ok (.iload_n 1, 1) := by decide +kernel
theorem d_Model_count_45 : decode prog_9_method_38_code 45 = .ok (.bipush 6, 2) := by decide +kernel
theorem d_Model_count_47 : decode prog_9_method_38_code 47 = .ok (.if_icmp .ne 8, 3) := by decide +kernel
theorem d_Model_count_50 : decode prog_9_method_38_code 50 = .ok (.aload_n 0, 1) := by decide +kernel
theorem d_Model_count_51 : decode prog_9_method_38_code 51 = .ok (.getfield 138, 3) := by decide +kernel
theorem d_Model_count_54 : decode prog_9_method_38_code 54 = .ok (.ireturn, 1) := by decide +kernel
theorem d_Model_count_55 : decode prog_9_method_38_code 55 = .ok (.iload_n 1, 1) := by decide +kernel
theorem d_Model_count_56 : decode prog_9_method_38_code 56 = .ok (.bipush 8, 2) := by decide +kernel
theorem d_Model_count_58 : decode prog_9_method_38_code 58 = .ok (.if_icmp .ne 8, 3) := by decide +kernel
