/-! decode rows: printed by wip/gen/names.py -/
theorem d_Model_bits_5 : decode prog_9_method_21_code 5 = .ok (.bipush 8, 2) := by decide +kernel
theorem d_Model_bits_7 : decode prog_9_method_21_code 7 = .ok (.if_icmp .ge 17, 3) := by decide +kernel
theorem d_Model_bits_10 : decode prog_9_method_21_code 10 = .ok (.iload_n 1, 1) := by decide +kernel
theorem d_Model_bits_11 : decode prog_9_method_21_code 11 = .ok (.iload_n 0, 1) := by decide +kernel
theorem d_Model_bits_12 : decode prog_9_method_21_code 12 = .ok (.iload_n 2, 1) := by decide +kernel
theorem d_Model_bits_13 : decode prog_9_method_21_code 13 = .ok (.ishr, 1) := by decide +kernel
theorem d_Model_bits_14 : decode prog_9_method_21_code 14 = .ok (.iconst 1, 1) := by decide +kernel
theorem d_Model_bits_15 : decode prog_9_method_21_code 15 = .ok (.iand, 1) := by decide +kernel
theorem d_Model_bits_16 : decode prog_9_method_21_code 16 = .ok (.iadd, 1) := by decide +kernel
theorem d_Model_bits_17 : decode prog_9_method_21_code 17 = .ok (.istore_n 1, 1) := by decide +kernel
theorem d_Model_bits_18 : decode prog_9_method_21_code 18 = .ok (.iinc 2 1, 3) := by decide +kernel
theorem d_Model_bits_21 : decode prog_9_method_21_code 21 = .ok (.goto (-17), 3) := by decide +kernel
theorem d_Model_bits_24 : decode prog_9_method_21_code 24 = .ok (.iload_n 1, 1) := by decide +kernel
theorem d_Model_bits_25 : decode prog_9_method_21_code 25 = .ok (.ireturn, 1) := by decide +kernel
theorem d_Model_test_0 : decode prog_9_method_23_code 0 = .ok (.aload_n 0, 1) := by decide +kernel
theorem d_Model_test_1 : decode prog_9_method_23_code 1 = .ok (.aload_n 0, 1) := by decide +kernel
theorem d_Model_test_2 : decode prog_9_method_23_code 2 = .ok (.iload_n 1, 1) := by decide +kernel
theorem d_Model_test_3 : decode prog_9_method_23_code 3 = .ok (.invokevirtual 131, 3) := by decide +kernel
theorem d_Model_test_6 : decode prog_9_method_23_code 6 = .ok (.ifCond .ne 7, 3) := by decide +kernel
theorem d_Model_test_9 : decode prog_9_method_23_code 9 = .ok (.iconst 1, 1) := by decide +kernel
theorem d_Model_test_10 : decode prog_9_method_23_code 10 = .ok (.goto 4, 3) := by decide +kernel
theorem d_Model_test_13 : decode prog_9_method_23_code 13 = .ok (.iconst 0, 1) := by decide +kernel
theorem d_Model_test_14 : decode prog_9_method_23_code 14 = .ok (.putfield 104, 3) := by decide +kernel
theorem d_Model_test_17 : decode prog_9_method_23_code 17 = .ok (.aload_n 0, 1) := by decide +kernel
theorem d_Model_test_18 : decode prog_9_method_23_code 18 = .ok (.getfield 104, 3) := by decide +kernel
theorem d_Model_test_21 : decode prog_9_method_23_code 21 = .ok (.ifCond .ne 39, 3) := by decide +kernel
theorem d_Model_test_24 : decode prog_9_method_23_code 24 = .ok (.aload_n 0, 1) := by decide +kernel
theorem d_Model_test_25 : decode prog_9_method_23_code 25 = .ok (.aload_n 0, 1) := by decide +kernel
theorem d_Model_test_26 : decode prog_9_method_23_code 26 = .ok (.getfield 20, 3) := by decide +kernel
theorem d_Model_test_29 : decode prog_9_method_23_code 29 = .ok (.iload_n 1, 1) := by decide +kernel
theorem d_Model_test_30 : decode prog_9_method_23_code 30 = .ok (.iaload, 1) := by decide +kernel
theorem d_Model_test_31 : decode prog_9_method_23_code 31 = .ok (.ifCond .eq 21, 3) := by decide +kernel
theorem d_Model_test_34 : decode prog_9_method_23_code 34 = .ok (.aload_n 0, 1) := by decide +kernel
theorem d_Model_test_35 : decode prog_9_method_23_code 35 = .ok (.getfield 20, 3) := by decide +kernel
theorem d_Model_test_38 : decode prog_9_method_23_code 38 = .ok (.iload_n 1, 1) := by decide +kernel
theorem d_Model_test_39 : decode prog_9_method_23_code 39 = .ok (.iaload, 1) := by decide +kernel
theorem d_Model_test_40 : decode prog_9_method_23_code 40 = .ok (.iconst 2, 1) := by decide +kernel
theorem d_Model_test_41 : decode prog_9_method_23_code 41 = .ok (.if_icmp .eq 11, 3) := by decide +kernel
theorem d_Model_test_44 : decode prog_9_method_23_code 44 = .ok (.aload_n 0, 1) := by decide +kernel
theorem d_Model_test_45 : decode prog_9_method_23_code 45 = .ok (.iload_n 1, 1) := by decide +kernel
theorem d_Model_test_46 : decode prog_9_method_23_code 46 = .ok (.invokevirtual 158, 3) := by decide +kernel
theorem d_Model_test_49 : decode prog_9_method_23_code 49 = .ok (.ifCond .eq 7, 3) := by decide +kernel
theorem d_Model_test_52 : decode prog_9_method_23_code 52 = .ok (.iconst 2, 1) := by decide +kernel
theorem d_Model_test_53 : decode prog_9_method_23_code 53 = .ok (.goto 4, 3) := by decide +kernel
theorem d_Model_test_56 : decode prog_9_method_23_code 56 = .ok (.iconst 0, 1) := by decide +kernel
theorem d_Model_test_57 : decode prog_9_method_23_code 57 = .ok (.putfield 104, 3) := by decide +kernel
theorem d_Model_test_60 : decode prog_9_method_23_code 60 = .ok (.aload_n 0, 1) := by decide +kernel
theorem d_Model_test_61 : decode prog_9_method_23_code 61 = .ok (.getfield 104, 3) := by decide +kernel
theorem d_Model_test_64 : decode prog_9_method_23_code 64 = .ok (.ifCond .le 5, 3) := by decide +kernel
theorem d_Model_test_67 : decode prog_9_method_23_code 67 = .ok (.iconst 0, 1) := by decide +kernel
theorem d_Model_test_68 : decode prog_9_method_23_code 68 = .ok (.ireturn, 1) := by decide +kernel
theorem d_Model_test_69 : decode prog_9_method_23_code 69 = .ok (.aload_n 0, 1) := by decide +kernel
theorem d_Model_test_70 : decode prog_9_method_23_code 70 = .ok (.getfield 23, 3) := by decide +kernel
theorem d_Model_test_73 : decode prog_9_method_23_code 73 = .ok (.iload_n 1, 1) := by decide +kernel
theorem d_Model_test_74 : decode prog_9_method_23_code 74 = .ok (.iload_n 2, 1) := by decide +kernel
theorem d_Model_test_75 : decode prog_9_method_23_code 75 = .ok (.ifCond .ne 7, 3) := by decide +kernel
theorem d_Model_test_78 : decode prog_9_method_23_code 78 = .ok (.iconst 1, 1) := by decide +kernel
theorem d_Model_test_79 : decode prog_9_method_23_code 79 = .ok (.goto 4, 3) := by decide +kernel
theorem d_Model_test_82 : decode prog_9_method_23_code 82 = .ok (.iconst 0, 1) := by decide +kernel
theorem d_Model_test_83 : decode prog_9_method_23_code 83 = .ok (.bastore, 1) := by decide +kernel
theorem d_Model_test_84 : decode prog_9_method_23_code 84 = .ok (.iload_n 2, 1) := by decide +kernel
theorem d_Model_test_85 : decode prog_9_method_23_code 85 = .ok (.ireturn, 1) := by decide +kernel
theorem d_Model_openKinds_0 : decode prog_9_method_16_code 0 = .ok (.iconst 0, 1) := by decide +kernel
theorem d_Model_openKinds_1 : decode prog_9_method_16_code 1 = .ok (.istore_n 2, 1) := by decide +kernel
theorem d_Model_openKinds_2 : decode prog_9_method_16_code 2 = .ok (.iconst 0, 1) := by decide +kernel
theorem d_Model_openKinds_3 : decode prog_9_method_16_code 3 = .ok (.istore_n 3, 1) := by decide +kernel
theorem d_Model_openKinds_4 : decode prog_9_method_16_code 4 = .ok (.iload_n 3, 1) := by decide +kernel
theorem d_Model_openKinds_5 : decode prog_9_method_16_code 5 = .ok (.bipush 8, 2) := by decide +kernel
theorem d_Model_openKinds_7 : decode prog_9_method_16_code 7 = .ok (.if_icmp .ge 28, 3) := by decide +kernel
theorem d_Model_openKinds_10 : decode prog_9_method_16_code 10 = .ok (.iload_n 2, 1) := by decide +kernel
theorem d_Model_openKinds_11 : decode prog_9_method_16_code 11 = .ok (.aload_n 0, 1) := by decide +kernel
theorem d_Model_openKinds_12 : decode prog_9_method_16_code 12 = .ok (.iload_n 1, 1) := by decide +kernel
theorem d_Model_openKinds_13 : decode prog_9_method_16_code 13 = .ok (.iload_n 3, 1) := by decide +kernel
theorem d_Model_openKinds_14 : decode prog_9_method_16_code 14 = .ok (.invokevirtual 134, 3) := by decide +kernel
theorem d_Model_openKinds_17 : decode prog_9_method_16_code 17 = .ok (.ifCond .le 9, 3) := by decide +kernel
theorem d_Model_openKinds_20 : decode prog_9_method_16_code 20 = .ok (.iconst 1, 1) := by decide +kernel
theorem d_Model_openKinds_21 : decode prog_9_method_16_code 21 = .ok (.iload_n 3, 1) := by decide +kernel
theorem d_Model_openKinds_22 : decode prog_9_method_16_code 22 = .ok (.ishl, 1) := by decide +kernel
theorem d_Model_openKinds_23 : decode prog_9_method_16_code 23 = .ok (.goto 4, 3) := by decide +kernel
theorem d_Model_openKinds_26 : decode prog_9_method_16_code 26 = .ok (.iconst 0, 1) := by decide +kernel
theorem d_Model_openKinds_27 : decode prog_9_method_16_code 27 = .ok (.ior, 1) := by decide +kernel
theorem d_Model_openKinds_28 : decode prog_9_method_16_code 28 = .ok (.istore_n 2, 1) := by decide +kernel
theorem d_Model_openKinds_29 : decode prog_9_method_16_code 29 = .ok (.iinc 3 1, 3) := by decide +kernel
theorem d_Model_openKinds_32 : decode prog_9_method_16_code 32 = .ok (.goto (-28), 3) := by decide +kernel
theorem d_Model_openKinds_35 : decode prog_9_method_16_code 35 = .ok (.iload_n 2, 1) := by decide +kernel
theorem d_Model_openKinds_36 : decode prog_9_method_16_code 36 = .ok (.ireturn, 1) := by decide +kernel
theorem d_Model_resume_0 : decode prog_9_method_24_code 0 = .ok (.aload_n 0, 1) := by decide +kernel
theorem d_Model_resume_1 : decode prog_9_method_24_code 1 = .ok (.aload_n 0, 1) := by decide +kernel
theorem d_Model_resume_2 : decode prog_9_method_24_code 2 = .ok (.iload_n 1, 1) := by decide +kernel
theorem d_Model_resume_3 : decode prog_9_method_24_code 3 = .ok (.invokevirtual 131, 3) := by decide +kernel
theorem d_Model_resume_6 : decode prog_9_method_24_code 6 = .ok (.ifCond .ne 7, 3) := by decide +kernel
theorem d_Model_resume_9 : decode prog_9_method_24_code 9 = .ok (.iconst 1, 1) := by decide +kernel
theorem d_Model_resume_10 : decode prog_9_method_24_code 10 = .ok (.goto 4, 3) := by decide +kernel
theorem d_Model_resume_13 : decode prog_9_method_24_code 13 = .ok (.iconst 0, 1) := by decide +kernel
theorem d_Model_resume_14 : decode prog_9_method_24_code 14 = .ok (.putfield 104, 3) := by decide +kernel
theorem d_Model_resume_17 : decode prog_9_method_24_code 17 = .ok (.aload_n 0, 1) := by decide +kernel
theorem d_Model_resume_18 : decode prog_9_method_24_code 18 = .ok (.getfield 104, 3) := by decide +kernel
theorem d_Model_resume_21 : decode prog_9_method_24_code 21 = .ok (.ifCond .ne 21, 3) := by decide +kernel
theorem d_Model_resume_24 : decode prog_9_method_24_code 24 = .ok (.aload_n 0, 1) := by decide +kernel
theorem d_Model_resume_25 : decode prog_9_method_24_code 25 = .ok (.aload_n 0, 1) := by decide +kernel
theorem d_Model_resume_26 : decode prog_9_method_24_code 26 = .ok (.getfield 20, 3) := by decide +kernel
theorem d_Model_resume_29 : decode prog_9_method_24_code 29 = .ok (.iload_n 1, 1) := by decide +kernel
theorem d_Model_resume_30 : decode prog_9_method_24_code 30 = .ok (.iaload, 1) := by decide +kernel
theorem d_Model_resume_31 : decode prog_9_method_24_code 31 = .ok (.ifCond .ne 7, 3) := by decide +kernel
theorem d_Model_resume_34 : decode prog_9_method_24_code 34 = .ok (.iconst 2, 1) := by decide +kernel
theorem d_Model_resume_35 : decode prog_9_method_24_code 35 = .ok (.goto 4, 3) := by decide +kernel
theorem d_Model_resume_38 : decode prog_9_method_24_code 38 = .ok (.iconst 0, 1) := by decide +kernel
theorem d_Model_resume_39 : decode prog_9_method_24_code 39 = .ok (.putfield 104, 3) := by decide +kernel
theorem d_Model_resume_42 : decode prog_9_method_24_code 42 = .ok (.aload_n 0, 1) := by decide +kernel
theorem d_Model_resume_43 : decode prog_9_method_24_code 43 = .ok (.getfield 104, 3) := by decide +kernel
theorem d_Model_resume_46 : decode prog_9_method_24_code 46 = .ok (.ifCond .le 5, 3) := by decide +kernel
theorem d_Model_resume_49 : decode prog_9_method_24_code 49 = .ok (.iconst 0, 1) := by decide +kernel
theorem d_Model_resume_50 : decode prog_9_method_24_code 50 = .ok (.ireturn, 1) := by decide +kernel
theorem d_Model_resume_51 : decode prog_9_method_24_code 51 = .ok (.aload_n 0, 1) := by decide +kernel
theorem d_Model_resume_52 : decode prog_9_method_24_code 52 = .ok (.iload_n 1, 1) := by decide +kernel
theorem d_Model_resume_53 : decode prog_9_method_24_code 53 = .ok (.invokevirtual 158, 3) := by decide +kernel
theorem d_Model_resume_56 : decode prog_9_method_24_code 56 = .ok (.ifCond .eq 7, 3) := by decide +kernel
theorem d_Model_resume_59 : decode prog_9_method_24_code 59 = .ok (.iconst (-1), 1) := by decide +kernel
theorem d_Model_resume_60 : decode prog_9_method_24_code 60 = .ok (.goto 33, 3) := by decide +kernel
theorem d_Model_resume_63 : decode prog_9_method_24_code 63 = .ok (.aload_n 0, 1) := by decide +kernel
theorem d_Model_resume_64 : decode prog_9_method_24_code 64 = .ok (.getfield 20, 3) := by decide +kernel
theorem d_Model_resume_67 : decode prog_9_method_24_code 67 = .ok (.iload_n 1, 1) := by decide +kernel
theorem d_Model_resume_68 : decode prog_9_method_24_code 68 = .ok (.iaload, 1) := by decide +kernel
theorem d_Model_resume_69 : decode prog_9_method_24_code 69 = .ok (.iconst 2, 1) := by decide +kernel
theorem d_Model_resume_70 : decode prog_9_method_24_code 70 = .ok (.if_icmp .ne 8, 3) := by decide +kernel
theorem d_Model_resume_73 : decode prog_9_method_24_code 73 = .ok (.bipush (-2), 2) := by decide +kernel
theorem d_Model_resume_75 : decode prog_9_method_24_code 75 = .ok (.goto 18, 3) := by decide +kernel
theorem d_Model_resume_78 : decode prog_9_method_24_code 78 = .ok (.aload_n 0, 1) := by decide +kernel
theorem d_Model_resume_79 : decode prog_9_method_24_code 79 = .ok (.getfield 23, 3) := by decide +kernel
theorem d_Model_resume_82 : decode prog_9_method_24_code 82 = .ok (.iload_n 1, 1) := by decide +kernel
theorem d_Model_resume_83 : decode prog_9_method_24_code 83 = .ok (.baload, 1) := by decide +kernel
theorem d_Model_resume_84 : decode prog_9_method_24_code 84 = .ok (.ifCond .eq 8, 3) := by decide +kernel
theorem d_Model_resume_87 : decode prog_9_method_24_code 87 = .ok (.bipush (-3), 2) := by decide +kernel
theorem d_Model_resume_89 : decode prog_9_method_24_code 89 = .ok (.goto 4, 3) := by decide +kernel
theorem d_Model_resume_92 : decode prog_9_method_24_code 92 = .ok (.iconst 0, 1) := by decide +kernel
theorem d_Model_resume_93 : decode prog_9_method_24_code 93 = .ok (.istore_n 2, 1) := by decide +kernel
theorem d_Model_resume_94 : decode prog_9_method_24_code 94 = .ok (.iload_n 2, 1) := by decide +kernel
theorem d_Model_resume_95 : decode prog_9_method_24_code 95 = .ok (.ifCond .ge 5, 3) := by decide +kernel
theorem d_Model_resume_98 : decode prog_9_method_24_code 98 = .ok (.iload_n 2, 1) := by decide +kernel
theorem d_Model_resume_99 : decode prog_9_method_24_code 99 = .ok (.ireturn, 1) := by decide +kernel
theorem d_Model_resume_100 : decode prog_9_method_24_code 100 = .ok (.aload_n 0, 1) := by decide +kernel
theorem d_Model_resume_101 : decode prog_9_method_24_code 101 = .ok (.getfield 20, 3) := by decide +kernel
theorem d_Model_resume_104 : decode prog_9_method_24_code 104 = .ok (.iload_n 1, 1) := by decide +kernel
theorem d_Model_resume_105 : decode prog_9_method_24_code 105 = .ok (.iconst 0, 1) := by decide +kernel
theorem d_Model_resume_106 : decode prog_9_method_24_code 106 = .ok (.iastore, 1) := by decide +kernel
theorem d_Model_resume_107 : decode prog_9_method_24_code 107 = .ok (.iconst 1, 1) := by decide +kernel
theorem d_Model_resume_108 : decode prog_9_method_24_code 108 = .ok (.ireturn, 1) := by decide +kernel
theorem d_Model_zone_0 : decode prog_9_method_27_code 0 = .ok (.aload_n 0, 1) := by decide +kernel
theorem d_Model_zone_1 : decode prog_9_method_27_code 1 = .ok (.aload_n 0, 1) := by decide +kernel
theorem d_Model_zone_2 : decode prog_9_method_27_code 2 = .ok (.iload_n 1, 1) := by decide +kernel
theorem d_Model_zone_3 : decode prog_9_method_27_code 3 = .ok (.invokevirtual 131, 3) := by decide +kernel
theorem d_Model_zone_6 : decode prog_9_method_27_code 6 = .ok (.ifCond .ne 7, 3) := by decide +kernel
theorem d_Model_zone_9 : decode prog_9_method_27_code 9 = .ok (.iconst 1, 1) := by decide +kernel
theorem d_Model_zone_10 : decode prog_9_method_27_code 10 = .ok (.goto 12, 3) := by decide +kernel
theorem d_Model_zone_13 : decode prog_9_method_27_code 13 = .ok (.iload_n 2, 1) := by decide +kernel
theorem d_Model_zone_14 : decode prog_9_method_27_code 14 = .ok (.ifCond .ge 7, 3) := by decide +kernel
theorem d_Model_zone_17 : decode prog_9_method_27_code 17 = .ok (.iconst 2, 1) := by decide +kernel
theorem d_Model_zone_18 : decode prog_9_method_27_code 18 = .ok (.goto 4, 3) := by decide +kernel
theorem d_Model_zone_21 : decode prog_9_method_27_code 21 = .ok (.iconst 0, 1) := by decide +kernel
theorem d_Model_zone_22 : decode prog_9_method_27_code 22 = .ok (.putfield 104, 3) := by decide +kernel
theorem d_Model_zone_25 : decode prog_9_method_27_code 25 = .ok (.aload_n 0, 1) := by decide +kernel
theorem d_Model_zone_26 : decode prog_9_method_27_code 26 = .ok (.getfield 104, 3) := by decide +kernel
theorem d_Model_zone_29 : decode prog_9_method_27_code 29 = .ok (.ifCond .ne 22, 3) := by decide +kernel
theorem d_Model_zone_32 : decode prog_9_method_27_code 32 = .ok (.aload_n 0, 1) := by decide +kernel
theorem d_Model_zone_33 : decode prog_9_method_27_code 33 = .ok (.aload_n 0, 1) := by decide +kernel
theorem d_Model_zone_34 : decode prog_9_method_27_code 34 = .ok (.getfield 20, 3) := by decide +kernel
theorem d_Model_zone_37 : decode prog_9_method_27_code 37 = .ok (.iload_n 1, 1) := by decide +kernel
theorem d_Model_zone_38 : decode prog_9_method_27_code 38 = .ok (.iaload, 1) := by decide +kernel
theorem d_Model_zone_39 : decode prog_9_method_27_code 39 = .ok (.iconst 2, 1) := by decide +kernel
theorem d_Model_zone_40 : decode prog_9_method_27_code 40 = .ok (.if_icmp .eq 7, 3) := by decide +kernel
theorem d_Model_zone_43 : decode prog_9_method_27_code 43 = .ok (.iconst 3, 1) := by decide +kernel
theorem d_Model_zone_44 : decode prog_9_method_27_code 44 = .ok (.goto 4, 3) := by decide +kernel
theorem d_Model_zone_47 : decode prog_9_method_27_code 47 = .ok (.iconst 0, 1) := by decide +kernel
theorem d_Model_zone_48 : decode prog_9_method_27_code 48 = .ok (.putfield 104, 3) := by decide +kernel
theorem d_Model_zone_51 : decode prog_9_method_27_code 51 = .ok (.aload_n 0, 1) := by decide +kernel
theorem d_Model_zone_52 : decode prog_9_method_27_code 52 = .ok (.getfield 104, 3) := by decide +kernel
theorem d_Model_zone_55 : decode prog_9_method_27_code 55 = .ok (.ifCond .le 5, 3) := by decide +kernel
theorem d_Model_zone_58 : decode prog_9_method_27_code 58 = .ok (.iconst 0, 1) := by decide +kernel
theorem d_Model_zone_59 : decode prog_9_method_27_code 59 = .ok (.ireturn, 1) := by decide +kernel
theorem d_Model_zone_60 : decode prog_9_method_27_code 60 = .ok (.iload_n 2, 1) := by decide +kernel
theorem d_Model_zone_61 : decode prog_9_method_27_code 61 = .ok (.istore_n 3, 1) := by decide +kernel
theorem d_Model_zone_62 : decode prog_9_method_27_code 62 = .ok (.iconst 0, 1) := by decide +kernel
theorem d_Model_zone_63 : decode prog_9_method_27_code 63 = .ok (.istore 4, 2) := by decide +kernel
theorem d_Model_zone_65 : decode prog_9_method_27_code 65 = .ok (.iload 4, 2) := by decide +kernel
theorem d_Model_zone_67 : decode prog_9_method_27_code 67 = .ok (.aload_n 0, 1) := by decide +kernel
theorem d_Model_zone_68 : decode prog_9_method_27_code 68 = .ok (.getfield 108, 3) := by decide +kernel
theorem d_Model_zone_71 : decode prog_9_method_27_code 71 = .ok (.if_icmp .ge 32, 3) := by decide +kernel
theorem d_Model_zone_74 : decode prog_9_method_27_code 74 = .ok (.aload_n 0, 1) := by decide +kernel
theorem d_Model_zone_75 : decode prog_9_method_27_code 75 = .ok (.iload_n 1, 1) := by decide +kernel
theorem d_Model_zone_76 : decode prog_9_method_27_code 76 = .ok (.iload 4, 2) := by decide +kernel
theorem d_Model_zone_78 : decode prog_9_method_27_code 78 = .ok (.invokevirtual 165, 3) := by decide +kernel
theorem d_Model_zone_81 : decode prog_9_method_27_code 81 = .ok (.ifCond .ne 6, 3) := by decide +kernel
theorem d_Model_zone_84 : decode prog_9_method_27_code 84 = .ok (.goto 13, 3) := by decide +kernel
theorem d_Model_zone_87 : decode prog_9_method_27_code 87 = .ok (.iload_n 3, 1) := by decide +kernel
theorem d_Model_zone_88 : decode prog_9_method_27_code 88 = .ok (.ifCond .ne 6, 3) := by decide +kernel
theorem d_Model_zone_91 : decode prog_9_method_27_code 91 = .ok (.iload 4, 2) := by decide +kernel
theorem d_Model_zone_93 : decode prog_9_method_27_code 93 = .ok (.ireturn, 1) := by decide +kernel
theorem d_Model_zone_94 : decode prog_9_method_27_code 94 = .ok (.iinc 3 (-1), 3) := by decide +kernel
theorem d_Model_zone_97 : decode prog_9_method_27_code 97 = .ok (.iinc 4 1, 3) := by decide +kernel
theorem d_Model_zone_100 : decode prog_9_method_27_code 100 = .ok (.goto (-35), 3) := by decide +kernel
theorem d_Model_zone_103 : decode prog_9_method_27_code 103 = .ok (.iconst (-1), 1) := by decide +kernel
theorem d_Model_zone_104 : decode prog_9_method_27_code 104 = .ok (.ireturn, 1) := by decide +kernel
theorem d_Model_mayBe_0 : decode prog_9_method_26_code 0 = .ok (.aload_n 0, 1) := by decide +kernel
theorem d_Model_mayBe_1 : decode prog_9_method_26_code 1 = .ok (.aload_n 0, 1) := by decide +kernel
theorem d_Model_mayBe_2 : decode prog_9_method_26_code 2 = .ok (.getfield 13, 3) := by decide +kernel
theorem d_Model_mayBe_5 : decode prog_9_method_26_code 5 = .ok (.iload_n 1, 1) := by decide +kernel
theorem d_Model_mayBe_6 : decode prog_9_method_26_code 6 = .ok (.iaload, 1) := by decide +kernel
theorem d_Model_mayBe_7 : decode prog_9_method_26_code 7 = .ok (.invokevirtual 161, 3) := by decide +kernel
theorem d_Model_mayBe_10 : decode prog_9_method_26_code 10 = .ok (.aload_n 0, 1) := by decide +kernel
theorem d_Model_mayBe_11 : decode prog_9_method_26_code 11 = .ok (.getfield 101, 3) := by decide +kernel
theorem d_Model_mayBe_14 : decode prog_9_method_26_code 14 = .ok (.iload_n 2, 1) := by decide +kernel
theorem d_Model_mayBe_15 : decode prog_9_method_26_code 15 = .ok (.iaload, 1) := by decide +kernel
theorem d_Model_mayBe_16 : decode prog_9_method_26_code 16 = .ok (.bipush 20, 2) := by decide +kernel
theorem d_Model_mayBe_18 : decode prog_9_method_26_code 18 = .ok (.if_icmp .ge 30, 3) := by decide +kernel
theorem d_Model_mayBe_21 : decode prog_9_method_26_code 21 = .ok (.aload_n 0, 1) := by decide +kernel
theorem d_Model_mayBe_22 : decode prog_9_method_26_code 22 = .ok (.getfield 101, 3) := by decide +kernel
theorem d_Model_mayBe_25 : decode prog_9_method_26_code 25 = .ok (.iload_n 2, 1) := by decide +kernel
theorem d_Model_mayBe_26 : decode prog_9_method_26_code 26 = .ok (.iaload, 1) := by decide +kernel
theorem d_Model_mayBe_27 : decode prog_9_method_26_code 27 = .ok (.aload_n 0, 1) := by decide +kernel
theorem d_Model_mayBe_28 : decode prog_9_method_26_code 28 = .ok (.getfield 138, 3) := by decide +kernel
theorem d_Model_mayBe_31 : decode prog_9_method_26_code 31 = .ok (.aload_n 0, 1) := by decide +kernel
theorem d_Model_mayBe_32 : decode prog_9_method_26_code 32 = .ok (.getfield 26, 3) := by decide +kernel
theorem d_Model_mayBe_35 : decode prog_9_method_26_code 35 = .ok (.iload_n 1, 1) := by decide +kernel
theorem d_Model_mayBe_36 : decode prog_9_method_26_code 36 = .ok (.iaload, 1) := by decide +kernel
theorem d_Model_mayBe_37 : decode prog_9_method_26_code 37 = .ok (.isub, 1) := by decide +kernel
theorem d_Model_mayBe_38 : decode prog_9_method_26_code 38 = .ok (.bipush 10, 2) := by decide +kernel
theorem d_Model_mayBe_40 : decode prog_9_method_26_code 40 = .ok (.idiv, 1) := by decide +kernel
theorem d_Model_mayBe_41 : decode prog_9_method_26_code 41 = .ok (.if_icmp .gt 7, 3) := by decide +kernel
theorem d_Model_mayBe_44 : decode prog_9_method_26_code 44 = .ok (.iconst 1, 1) := by decide +kernel
theorem d_Model_mayBe_45 : decode prog_9_method_26_code 45 = .ok (.goto 4, 3) := by decide +kernel
theorem d_Model_mayBe_48 : decode prog_9_method_26_code 48 = .ok (.iconst 0, 1) := by decide +kernel
theorem d_Model_mayBe_49 : decode prog_9_method_26_code 49 = .ok (.ireturn, 1) := by decide +kernel
theorem d_Model_reach_0 : decode prog_9_method_25_code 0 = .ok (.iconst 0, 1) := by decide +kernel
theorem d_Model_reach_1 : decode prog_9_method_25_code 1 = .ok (.istore_n 2, 1) := by decide +kernel
theorem d_Model_reach_2 : decode prog_9_method_25_code 2 = .ok (.iload_n 2, 1) := by decide +kernel
theorem d_Model_reach_3 : decode prog_9_method_25_code 3 = .ok (.bipush 20, 2) := by decide +kernel
theorem d_Model_reach_5 : decode prog_9_method_25_code 5 = .ok (.if_icmp .ge 26, 3) := by decide +kernel
theorem d_Model_reach_8 : decode prog_9_method_25_code 8 = .ok (.aload_n 0, 1) := by decide +kernel
theorem d_Model_reach_9 : decode prog_9_method_25_code 9 = .ok (.getfield 101, 3) := by decide +kernel
theorem d_Model_reach_12 : decode prog_9_method_25_code 12 = .ok (.iload_n 2, 1) := by decide +kernel
theorem d_Model_reach_13 : decode prog_9_method_25_code 13 = .ok (.iload_n 2, 1) := by decide +kernel
theorem d_Model_reach_14 : decode prog_9_method_25_code 14 = .ok (.iload_n 1, 1) := by decide +kernel
theorem d_Model_reach_15 : decode prog_9_method_25_code 15 = .ok (.if_icmp .ne 7, 3) := by decide +kernel
theorem d_Model_reach_18 : decode prog_9_method_25_code 18 = .ok (.iconst 0, 1) := by decide +kernel
theorem d_Model_reach_19 : decode prog_9_method_25_code 19 = .ok (.goto 5, 3) := by decide +kernel
theorem d_Model_reach_22 : decode prog_9_method_25_code 22 = .ok (.bipush 20, 2) := by decide +kernel
theorem d_Model_reach_24 : decode prog_9_method_25_code 24 = .ok (.iastore, 1) := by decide +kernel
theorem d_Model_reach_25 : decode prog_9_method_25_code 25 = .ok (.iinc 2 1, 3) := by decide +kernel
theorem d_Model_reach_28 : decode prog_9_method_25_code 28 = .ok (.goto (-26), 3) := by decide +kernel
theorem d_Model_reach_31 : decode prog_9_method_25_code 31 = .ok (.iconst 0, 1) := by decide +kernel
theorem d_Model_reach_32 : decode prog_9_method_25_code 32 = .ok (.istore_n 2, 1) := by decide +kernel
theorem d_Model_reach_33 : decode prog_9_method_25_code 33 = .ok (.iload_n 2, 1) := by decide +kernel
theorem d_Model_reach_34 : decode prog_9_method_25_code 34 = .ok (.bipush 20, 2) := by decide +kernel
theorem d_Model_reach_36 : decode prog_9_method_25_code 36 = .ok (.if_icmp .ge 90, 3) := by decide +kernel
theorem d_Model_reach_39 : decode prog_9_method_25_code 39 = .ok (.iconst 0, 1) := by decide +kernel
theorem d_Model_reach_40 : decode prog_9_method_25_code 40 = .ok (.istore_n 3, 1) := by decide +kernel
theorem d_Model_reach_41 : decode prog_9_method_25_code 41 = .ok (.iload_n 3, 1) := by decide +kernel
theorem d_Model_reach_42 : decode prog_9_method_25_code 42 = .ok (.aload_n 0, 1) := by decide +kernel
theorem d_Model_reach_43 : decode prog_9_method_25_code 43 = .ok (.getfield 108, 3) := by decide +kernel
theorem d_Model_reach_46 : decode prog_9_method_25_code 46 = .ok (.if_icmp .ge 74, 3) := by decide +kernel
theorem d_Model_reach_49 : decode prog_9_method_25_code 49 = .ok (.iconst 0, 1) := by decide +kernel
theorem d_Model_reach_50 : decode prog_9_method_25_code 50 = .ok (.istore 4, 2) := by decide +kernel
theorem d_Model_reach_52 : decode prog_9_method_25_code 52 = .ok (.iload 4, 2) := by decide +kernel
theorem d_Model_reach_54 : decode prog_9_method_25_code 54 = .ok (.aload_n 0, 1) := by decide +kernel
theorem d_Model_reach_55 : decode prog_9_method_25_code 55 = .ok (.getfield 108, 3) := by decide +kernel
theorem d_Model_reach_58 : decode prog_9_method_25_code 58 = .ok (.if_icmp .ge 56, 3) := by decide +kernel
theorem d_Model_reach_61 : decode prog_9_method_25_code 61 = .ok (.aload_n 0, 1) := by decide +kernel
theorem d_Model_reach_62 : decode prog_9_method_25_code 62 = .ok (.getfield 101, 3) := by decide +kernel
theorem d_Model_reach_65 : decode prog_9_method_25_code 65 = .ok (.iload_n 3, 1) := by decide +kernel
theorem d_Model_reach_66 : decode prog_9_method_25_code 66 = .ok (.iaload, 1) := by decide +kernel
theorem d_Model_reach_67 : decode prog_9_method_25_code 67 = .ok (.iload_n 2, 1) := by decide +kernel
theorem d_Model_reach_68 : decode prog_9_method_25_code 68 = .ok (.if_icmp .ne 46, 3) := by decide +kernel
theorem d_Model_reach_71 : decode prog_9_method_25_code 71 = .ok (.aload_n 0, 1) := by decide +kernel
theorem d_Model_reach_72 : decode prog_9_method_25_code 72 = .ok (.getfield 7, 3) := by decide +kernel
theorem d_Model_reach_75 : decode prog_9_method_25_code 75 = .ok (.bipush 20, 2) := by decide +kernel
theorem d_Model_reach_77 : decode prog_9_method_25_code 77 = .ok (.iload_n 3, 1) := by decide +kernel
theorem d_Model_reach_78 : decode prog_9_method_25_code 78 = .ok (.imul, 1) := by decide +kernel
theorem d_Model_reach_79 : decode prog_9_method_25_code 79 = .ok (.iload 4, 2) := by decide +kernel
theorem d_Model_reach_81 : decode prog_9_method_25_code 81 = .ok (.iadd, 1) := by decide +kernel
theorem d_Model_reach_82 : decode prog_9_method_25_code 82 = .ok (.baload, 1) := by decide +kernel
theorem d_Model_reach_83 : decode prog_9_method_25_code 83 = .ok (.ifCond .eq 25, 3) := by decide +kernel
theorem d_Model_reach_86 : decode prog_9_method_25_code 86 = .ok (.aload_n 0, 1) := by decide +kernel
theorem d_Model_reach_87 : decode prog_9_method_25_code 87 = .ok (.getfield 101, 3) := by decide +kernel
theorem d_Model_reach_90 : decode prog_9_method_25_code 90 = .ok (.iload 4, 2) := by decide +kernel
theorem d_Model_reach_92 : decode prog_9_method_25_code 92 = .ok (.iaload, 1) := by decide +kernel
theorem d_Model_reach_93 : decode prog_9_method_25_code 93 = .ok (.bipush 20, 2) := by decide +kernel
theorem d_Model_reach_95 : decode prog_9_method_25_code 95 = .ok (.if_icmp .ne 13, 3) := by decide +kernel
theorem d_Model_reach_98 : decode prog_9_method_25_code 98 = .ok (.aload_n 0, 1) := by decide +kernel
theorem d_Model_reach_99 : decode prog_9_method_25_code 99 = .ok (.getfield 101, 3) := by decide +kernel
theorem d_Model_reach_102 : decode prog_9_method_25_code 102 = .ok (.iload 4, 2) := by decide +kernel
theorem d_Model_reach_104 : decode prog_9_method_25_code 104 = .ok (.iload_n 2, 1) := by decide +kernel
theorem d_Model_reach_105 : decode prog_9_method_25_code 105 = .ok (.iconst 1, 1) := by decide +kernel
theorem d_Model_reach_106 : decode prog_9_method_25_code 106 = .ok (.iadd, 1) := by decide +kernel
theorem d_Model_reach_107 : decode prog_9_method_25_code 107 = .ok (.iastore, 1) := by decide +kernel
theorem d_Model_reach_108 : decode prog_9_method_25_code 108 = .ok (.iinc 4 1, 3) := by decide +kernel
theorem d_Model_reach_111 : decode prog_9_method_25_code 111 = .ok (.goto (-59), 3) := by decide +kernel
theorem d_Model_reach_114 : decode prog_9_method_25_code 114 = .ok (.iinc 3 1, 3) := by decide +kernel
theorem d_Model_reach_117 : decode prog_9_method_25_code 117 = .ok (.goto (-76), 3) := by decide +kernel
theorem d_Model_reach_120 : decode prog_9_method_25_code 120 = .ok (.iinc 2 1, 3) := by decide +kernel
theorem d_Model_reach_123 : decode prog_9_method_25_code 123 = .ok (.goto (-90), 3) := by decide +kernel
theorem d_Model_reach_126 : decode prog_9_method_25_code 126 = .ok (.return_, 1) := by decide +kernel
theorem d_Model_found_0 : decode prog_9_method_28_code 0 = .ok (.aload_n 0, 1) := by decide +kernel
theorem d_Model_found_1 : decode prog_9_method_28_code 1 = .ok (.aload_n 0, 1) := by decide +kernel
theorem d_Model_found_2 : decode prog_9_method_28_code 2 = .ok (.iload_n 1, 1) := by decide +kernel
theorem d_Model_found_3 : decode prog_9_method_28_code 3 = .ok (.invokevirtual 131, 3) := by decide +kernel
theorem d_Model_found_6 : decode prog_9_method_28_code 6 = .ok (.ifCond .eq 11, 3) := by decide +kernel
theorem d_Model_found_9 : decode prog_9_method_28_code 9 = .ok (.aload_n 0, 1) := by decide +kernel
theorem d_Model_found_10 : decode prog_9_method_28_code 10 = .ok (.iload_n 2, 1) := by decide +kernel
theorem d_Model_found_11 : decode prog_9_method_28_code 11 = .ok (.invokevirtual 124, 3) := by decide +kernel
theorem d_Model_found_14 : decode prog_9_method_28_code 14 = .ok (.ifCond .ne 7, 3) := by decide +kernel
theorem d_Model_found_17 : decode prog_9_method_28_code 17 = .ok (.iconst 1, 1) := by decide +kernel
theorem d_Model_found_18 : decode prog_9_method_28_code 18 = .ok (.goto 4, 3) := by decide +kernel
theorem d_Model_found_21 : decode prog_9_method_28_code 21 = .ok (.iconst 0, 1) := by decide +kernel
theorem d_Model_found_22 : decode prog_9_method_28_code 22 = .ok (.putfield 104, 3) := by decide +kernel
theorem d_Model_found_25 : decode prog_9_method_28_code 25 = .ok (.aload_n 0, 1) := by decide +kernel
theorem d_Model_found_26 : decode prog_9_method_28_code 26 = .ok (.getfield 104, 3) := by decide +kernel
theorem d_Model_found_29 : decode prog_9_method_28_code 29 = .ok (.ifCond .ne 22, 3) := by decide +kernel
theorem d_Model_found_32 : decode prog_9_method_28_code 32 = .ok (.aload_n 0, 1) := by decide +kernel
theorem d_Model_found_33 : decode prog_9_method_28_code 33 = .ok (.aload_n 0, 1) := by decide +kernel
theorem d_Model_found_34 : decode prog_9_method_28_code 34 = .ok (.getfield 20, 3) := by decide +kernel
theorem d_Model_found_37 : decode prog_9_method_28_code 37 = .ok (.iload_n 1, 1) := by decide +kernel
theorem d_Model_found_38 : decode prog_9_method_28_code 38 = .ok (.iaload, 1) := by decide +kernel
theorem d_Model_found_39 : decode prog_9_method_28_code 39 = .ok (.iconst 2, 1) := by decide +kernel
theorem d_Model_found_40 : decode prog_9_method_28_code 40 = .ok (.if_icmp .eq 7, 3) := by decide +kernel
theorem d_Model_found_43 : decode prog_9_method_28_code 43 = .ok (.iconst 2, 1) := by decide +kernel
theorem d_Model_found_44 : decode prog_9_method_28_code 44 = .ok (.goto 4, 3) := by decide +kernel
theorem d_Model_found_47 : decode prog_9_method_28_code 47 = .ok (.iconst 0, 1) := by decide +kernel
theorem d_Model_found_48 : decode prog_9_method_28_code 48 = .ok (.putfield 104, 3) := by decide +kernel
theorem d_Model_found_51 : decode prog_9_method_28_code 51 = .ok (.aload_n 0, 1) := by decide +kernel
theorem d_Model_found_52 : decode prog_9_method_28_code 52 = .ok (.getfield 104, 3) := by decide +kernel
theorem d_Model_found_55 : decode prog_9_method_28_code 55 = .ok (.ifCond .ne 21, 3) := by decide +kernel
theorem d_Model_found_58 : decode prog_9_method_28_code 58 = .ok (.aload_n 0, 1) := by decide +kernel
theorem d_Model_found_59 : decode prog_9_method_28_code 59 = .ok (.aload_n 0, 1) := by decide +kernel
theorem d_Model_found_60 : decode prog_9_method_28_code 60 = .ok (.iload_n 1, 1) := by decide +kernel
theorem d_Model_found_61 : decode prog_9_method_28_code 61 = .ok (.iload_n 2, 1) := by decide +kernel
theorem d_Model_found_62 : decode prog_9_method_28_code 62 = .ok (.invokevirtual 165, 3) := by decide +kernel
theorem d_Model_found_65 : decode prog_9_method_28_code 65 = .ok (.ifCond .ne 7, 3) := by decide +kernel
theorem d_Model_found_68 : decode prog_9_method_28_code 68 = .ok (.iconst 2, 1) := by decide +kernel
theorem d_Model_found_69 : decode prog_9_method_28_code 69 = .ok (.goto 4, 3) := by decide +kernel
theorem d_Model_found_72 : decode prog_9_method_28_code 72 = .ok (.iconst 0, 1) := by decide +kernel
theorem d_Model_found_73 : decode prog_9_method_28_code 73 = .ok (.putfield 104, 3) := by decide +kernel
theorem d_Model_found_76 : decode prog_9_method_28_code 76 = .ok (.aload_n 0, 1) := by decide +kernel
theorem d_Model_found_77 : decode prog_9_method_28_code 77 = .ok (.getfield 104, 3) := by decide +kernel
theorem d_Model_found_80 : decode prog_9_method_28_code 80 = .ok (.ifCond .le 5, 3) := by decide +kernel
theorem d_Model_found_83 : decode prog_9_method_28_code 83 = .ok (.iconst 0, 1) := by decide +kernel
theorem d_Model_found_84 : decode prog_9_method_28_code 84 = .ok (.ireturn, 1) := by decide +kernel
theorem d_Model_found_85 : decode prog_9_method_28_code 85 = .ok (.aload_n 0, 1) := by decide +kernel
theorem d_Model_found_86 : decode prog_9_method_28_code 86 = .ok (.getfield 13, 3) := by decide +kernel
theorem d_Model_found_89 : decode prog_9_method_28_code 89 = .ok (.iload_n 1, 1) := by decide +kernel
theorem d_Model_found_90 : decode prog_9_method_28_code 90 = .ok (.iload_n 2, 1) := by decide +kernel
theorem d_Model_found_91 : decode prog_9_method_28_code 91 = .ok (.iastore, 1) := by decide +kernel
theorem d_Model_found_92 : decode prog_9_method_28_code 92 = .ok (.aload_n 0, 1) := by decide +kernel
theorem d_Model_found_93 : decode prog_9_method_28_code 93 = .ok (.getfield 20, 3) := by decide +kernel
theorem d_Model_found_96 : decode prog_9_method_28_code 96 = .ok (.iload_n 1, 1) := by decide +kernel
theorem d_Model_found_97 : decode prog_9_method_28_code 97 = .ok (.iconst 1, 1) := by decide +kernel
theorem d_Model_found_98 : decode prog_9_method_28_code 98 = .ok (.iastore, 1) := by decide +kernel
theorem d_Model_found_99 : decode prog_9_method_28_code 99 = .ok (.aload_n 0, 1) := by decide +kernel
theorem d_Model_found_100 : decode prog_9_method_28_code 100 = .ok (.getfield 101, 3) := by decide +kernel
theorem d_Model_found_103 : decode prog_9_method_28_code 103 = .ok (.iload_n 2, 1) := by decide +kernel
theorem d_Model_found_104 : decode prog_9_method_28_code 104 = .ok (.iaload, 1) := by decide +kernel
theorem d_Model_found_105 : decode prog_9_method_28_code 105 = .ok (.ireturn, 1) := by decide +kernel
theorem d_Model_tow_0 : decode prog_9_method_29_code 0 = .ok (.aload_n 0, 1) := by decide +kernel
theorem d_Model_tow_1 : decode prog_9_method_29_code 1 = .ok (.aload_n 0, 1) := by decide +kernel
theorem d_Model_tow_2 : decode prog_9_method_29_code 2 = .ok (.iload_n 1, 1) := by decide +kernel
theorem d_Model_tow_3 : decode prog_9_method_29_code 3 = .ok (.invokevirtual 131, 3) := by decide +kernel
theorem d_Model_tow_6 : decode prog_9_method_29_code 6 = .ok (.ifCond .eq 11, 3) := by decide +kernel
theorem d_Model_tow_9 : decode prog_9_method_29_code 9 = .ok (.aload_n 0, 1) := by decide +kernel
theorem d_Model_tow_10 : decode prog_9_method_29_code 10 = .ok (.iload_n 2, 1) := by decide +kernel
theorem d_Model_tow_11 : decode prog_9_method_29_code 11 = .ok (.invokevirtual 124, 3) := by decide +kernel
theorem d_Model_tow_14 : decode prog_9_method_29_code 14 = .ok (.ifCond .ne 7, 3) := by decide +kernel
theorem d_Model_tow_17 : decode prog_9_method_29_code 17 = .ok (.iconst 1, 1) := by decide +kernel
theorem d_Model_tow_18 : decode prog_9_method_29_code 18 = .ok (.goto 4, 3) := by decide +kernel
theorem d_Model_tow_21 : decode prog_9_method_29_code 21 = .ok (.iconst 0, 1) := by decide +kernel
theorem d_Model_tow_22 : decode prog_9_method_29_code 22 = .ok (.putfield 104, 3) := by decide +kernel
theorem d_Model_tow_25 : decode prog_9_method_29_code 25 = .ok (.aload_n 0, 1) := by decide +kernel
theorem d_Model_tow_26 : decode prog_9_method_29_code 26 = .ok (.getfield 104, 3) := by decide +kernel
theorem d_Model_tow_29 : decode prog_9_method_29_code 29 = .ok (.ifCond .ne 32, 3) := by decide +kernel
theorem d_Model_tow_32 : decode prog_9_method_29_code 32 = .ok (.aload_n 0, 1) := by decide +kernel
theorem d_Model_tow_33 : decode prog_9_method_29_code 33 = .ok (.aload_n 0, 1) := by decide +kernel
theorem d_Model_tow_34 : decode prog_9_method_29_code 34 = .ok (.getfield 20, 3) := by decide +kernel
theorem d_Model_tow_37 : decode prog_9_method_29_code 37 = .ok (.iload_n 1, 1) := by decide +kernel
theorem d_Model_tow_38 : decode prog_9_method_29_code 38 = .ok (.iaload, 1) := by decide +kernel
theorem d_Model_tow_39 : decode prog_9_method_29_code 39 = .ok (.iconst 1, 1) := by decide +kernel
theorem d_Model_tow_40 : decode prog_9_method_29_code 40 = .ok (.if_icmp .eq 17, 3) := by decide +kernel
theorem d_Model_tow_43 : decode prog_9_method_29_code 43 = .ok (.aload_n 0, 1) := by decide +kernel
theorem d_Model_tow_44 : decode prog_9_method_29_code 44 = .ok (.getfield 20, 3) := by decide +kernel
theorem d_Model_tow_47 : decode prog_9_method_29_code 47 = .ok (.iload_n 1, 1) := by decide +kernel
theorem d_Model_tow_48 : decode prog_9_method_29_code 48 = .ok (.iaload, 1) := by decide +kernel
theorem d_Model_tow_49 : decode prog_9_method_29_code 49 = .ok (.iconst 3, 1) := by decide +kernel
theorem d_Model_tow_50 : decode prog_9_method_29_code 50 = .ok (.if_icmp .eq 7, 3) := by decide +kernel
theorem d_Model_tow_53 : decode prog_9_method_29_code 53 = .ok (.iconst 2, 1) := by decide +kernel
theorem d_Model_tow_54 : decode prog_9_method_29_code 54 = .ok (.goto 4, 3) := by decide +kernel
theorem d_Model_tow_57 : decode prog_9_method_29_code 57 = .ok (.iconst 0, 1) := by decide +kernel
theorem d_Model_tow_58 : decode prog_9_method_29_code 58 = .ok (.putfield 104, 3) := by decide +kernel
theorem d_Model_tow_61 : decode prog_9_method_29_code 61 = .ok (.aload_n 0, 1) := by decide +kernel
theorem d_Model_tow_62 : decode prog_9_method_29_code 62 = .ok (.getfield 104, 3) := by decide +kernel
theorem d_Model_tow_65 : decode prog_9_method_29_code 65 = .ok (.ifCond .le 4, 3) := by decide +kernel
theorem d_Model_tow_68 : decode prog_9_method_29_code 68 = .ok (.return_, 1) := by decide +kernel
theorem d_Model_tow_69 : decode prog_9_method_29_code 69 = .ok (.aload_n 0, 1) := by decide +kernel
theorem d_Model_tow_70 : decode prog_9_method_29_code 70 = .ok (.getfield 20, 3) := by decide +kernel
theorem d_Model_tow_73 : decode prog_9_method_29_code 73 = .ok (.iload_n 1, 1) := by decide +kernel
theorem d_Model_tow_74 : decode prog_9_method_29_code 74 = .ok (.iconst 3, 1) := by decide +kernel
theorem d_Model_tow_75 : decode prog_9_method_29_code 75 = .ok (.iastore, 1) := by decide +kernel
theorem d_Model_tow_76 : decode prog_9_method_29_code 76 = .ok (.aload_n 0, 1) := by decide +kernel
theorem d_Model_tow_77 : decode prog_9_method_29_code 77 = .ok (.getfield 13, 3) := by decide +kernel
theorem d_Model_tow_80 : decode prog_9_method_29_code 80 = .ok (.iload_n 1, 1) := by decide +kernel
theorem d_Model_tow_81 : decode prog_9_method_29_code 81 = .ok (.iload_n 2, 1) := by decide +kernel
theorem d_Model_tow_82 : decode prog_9_method_29_code 82 = .ok (.iastore, 1) := by decide +kernel
theorem d_Model_tow_83 : decode prog_9_method_29_code 83 = .ok (.return_, 1) := by decide +kernel
theorem d_Model_plant_0 : decode prog_9_method_30_code 0 = .ok (.aload_n 0, 1) := by decide +kernel
theorem d_Model_plant_1 : decode prog_9_method_30_code 1 = .ok (.aload_n 0, 1) := by decide +kernel
theorem d_Model_plant_2 : decode prog_9_method_30_code 2 = .ok (.iload_n 1, 1) := by decide +kernel
theorem d_Model_plant_3 : decode prog_9_method_30_code 3 = .ok (.invokevirtual 131, 3) := by decide +kernel
theorem d_Model_plant_6 : decode prog_9_method_30_code 6 = .ok (.ifCond .ne 7, 3) := by decide +kernel
theorem d_Model_plant_9 : decode prog_9_method_30_code 9 = .ok (.iconst 1, 1) := by decide +kernel
theorem d_Model_plant_10 : decode prog_9_method_30_code 10 = .ok (.goto 39, 3) := by decide +kernel
theorem d_Model_plant_13 : decode prog_9_method_30_code 13 = .ok (.iload_n 2, 1) := by decide +kernel
theorem d_Model_plant_14 : decode prog_9_method_30_code 14 = .ok (.invokestatic 128, 3) := by decide +kernel
theorem d_Model_plant_17 : decode prog_9_method_30_code 17 = .ok (.ifCond .eq 14, 3) := by decide +kernel
theorem d_Model_plant_20 : decode prog_9_method_30_code 20 = .ok (.iload_n 3, 1) := by decide +kernel
theorem d_Model_plant_21 : decode prog_9_method_30_code 21 = .ok (.iconst 1, 1) := by decide +kernel
theorem d_Model_plant_22 : decode prog_9_method_30_code 22 = .ok (.sipush 1000, 3) := by decide +kernel
theorem d_Model_plant_25 : decode prog_9_method_30_code 25 = .ok (.invokestatic 111, 3) := by decide +kernel
theorem d_Model_plant_28 : decode prog_9_method_30_code 28 = .ok (.ifCond .ne 7, 3) := by decide +kernel
theorem d_Model_plant_31 : decode prog_9_method_30_code 31 = .ok (.iconst 2, 1) := by decide +kernel
theorem d_Model_plant_32 : decode prog_9_method_30_code 32 = .ok (.goto 17, 3) := by decide +kernel
theorem d_Model_plant_35 : decode prog_9_method_30_code 35 = .ok (.aload_n 0, 1) := by decide +kernel
theorem d_Model_plant_36 : decode prog_9_method_30_code 36 = .ok (.getfield 169, 3) := by decide +kernel
theorem d_Model_plant_39 : decode prog_9_method_30_code 39 = .ok (.bipush 10, 2) := by decide +kernel
theorem d_Model_plant_41 : decode prog_9_method_30_code 41 = .ok (.if_icmp .ne 7, 3) := by decide +kernel
theorem d_Model_plant_44 : decode prog_9_method_30_code 44 = .ok (.iconst 3, 1) := by decide +kernel
theorem d_Model_plant_45 : decode prog_9_method_30_code 45 = .ok (.goto 4, 3) := by decide +kernel
theorem d_Model_plant_48 : decode prog_9_method_30_code 48 = .ok (.iconst 0, 1) := by decide +kernel
theorem d_Model_plant_49 : decode prog_9_method_30_code 49 = .ok (.putfield 104, 3) := by decide +kernel
theorem d_Model_plant_52 : decode prog_9_method_30_code 52 = .ok (.aload_n 0, 1) := by decide +kernel
theorem d_Model_plant_53 : decode prog_9_method_30_code 53 = .ok (.getfield 104, 3) := by decide +kernel
theorem d_Model_plant_56 : decode prog_9_method_30_code 56 = .ok (.ifCond .le 4, 3) := by decide +kernel
theorem d_Model_plant_59 : decode prog_9_method_30_code 59 = .ok (.return_, 1) := by decide +kernel
theorem d_Model_plant_60 : decode prog_9_method_30_code 60 = .ok (.aload_n 0, 1) := by decide +kernel
theorem d_Model_plant_61 : decode prog_9_method_30_code 61 = .ok (.getfield 92, 3) := by decide +kernel
theorem d_Model_plant_64 : decode prog_9_method_30_code 64 = .ok (.aload_n 0, 1) := by decide +kernel
theorem d_Model_plant_65 : decode prog_9_method_30_code 65 = .ok (.getfield 169, 3) := by decide +kernel
theorem d_Model_plant_68 : decode prog_9_method_30_code 68 = .ok (.iload_n 1, 1) := by decide +kernel
theorem d_Model_plant_69 : decode prog_9_method_30_code 69 = .ok (.iastore, 1) := by decide +kernel
theorem d_Model_plant_70 : decode prog_9_method_30_code 70 = .ok (.aload_n 0, 1) := by decide +kernel
theorem d_Model_plant_71 : decode prog_9_method_30_code 71 = .ok (.getfield 95, 3) := by decide +kernel
theorem d_Model_plant_74 : decode prog_9_method_30_code 74 = .ok (.aload_n 0, 1) := by decide +kernel
theorem d_Model_plant_75 : decode prog_9_method_30_code 75 = .ok (.getfield 169, 3) := by decide +kernel
theorem d_Model_plant_78 : decode prog_9_method_30_code 78 = .ok (.iload_n 2, 1) := by decide +kernel
theorem d_Model_plant_79 : decode prog_9_method_30_code 79 = .ok (.iastore, 1) := by decide +kernel
theorem d_Model_plant_80 : decode prog_9_method_30_code 80 = .ok (.aload_n 0, 1) := by decide +kernel
theorem d_Model_plant_81 : decode prog_9_method_30_code 81 = .ok (.getfield 98, 3) := by decide +kernel
theorem d_Model_plant_84 : decode prog_9_method_30_code 84 = .ok (.aload_n 0, 1) := by decide +kernel
theorem d_Model_plant_85 : decode prog_9_method_30_code 85 = .ok (.getfield 169, 3) := by decide +kernel
theorem d_Model_plant_88 : decode prog_9_method_30_code 88 = .ok (.aload_n 0, 1) := by decide +kernel
theorem d_Model_plant_89 : decode prog_9_method_30_code 89 = .ok (.getfield 138, 3) := by decide +kernel
theorem d_Model_plant_92 : decode prog_9_method_30_code 92 = .ok (.iload_n 3, 1) := by decide +kernel
theorem d_Model_plant_93 : decode prog_9_method_30_code 93 = .ok (.iadd, 1) := by decide +kernel
theorem d_Model_plant_94 : decode prog_9_method_30_code 94 = .ok (.iastore, 1) := by decide +kernel
theorem d_Model_plant_95 : decode prog_9_method_30_code 95 = .ok (.aload_n 0, 1) := by decide +kernel
theorem d_Model_plant_96 : decode prog_9_method_30_code 96 = .ok (.dup, 1) := by decide +kernel
theorem d_Model_plant_97 : decode prog_9_method_30_code 97 = .ok (.getfield 169, 3) := by decide +kernel
theorem d_Model_plant_100 : decode prog_9_method_30_code 100 = .ok (.iconst 1, 1) := by decide +kernel
theorem d_Model_plant_101 : decode prog_9_method_30_code 101 = .ok (.iadd, 1) := by decide +kernel
theorem d_Model_plant_102 : decode prog_9_method_30_code 102 = .ok (.putfield 169, 3) := by decide +kernel
theorem d_Model_plant_105 : decode prog_9_method_30_code 105 = .ok (.return_, 1) := by decide +kernel
theorem d_Model_pass_0 : decode prog_9_method_32_code 0 = .ok (.aload_n 0, 1) := by decide +kernel
theorem d_Model_pass_1 : decode prog_9_method_32_code 1 = .ok (.iload_n 1, 1) := by decide +kernel
theorem d_Model_pass_2 : decode prog_9_method_32_code 2 = .ok (.iconst 0, 1) := by decide +kernel
theorem d_Model_pass_3 : decode prog_9_method_32_code 3 = .ok (.sipush 1000, 3) := by decide +kernel
theorem d_Model_pass_6 : decode prog_9_method_32_code 6 = .ok (.invokestatic 111, 3) := by decide +kernel
theorem d_Model_pass_9 : decode prog_9_method_32_code 9 = .ok (.ifCond .eq 18, 3) := by decide +kernel
theorem d_Model_pass_12 : decode prog_9_method_32_code 12 = .ok (.iload_n 1, 1) := by decide +kernel
theorem d_Model_pass_13 : decode prog_9_method_32_code 13 = .ok (.ldc 172, 2) := by decide +kernel
theorem d_Model_pass_15 : decode prog_9_method_32_code 15 = .ok (.aload_n 0, 1) := by decide +kernel
theorem d_Model_pass_16 : decode prog_9_method_32_code 16 = .ok (.getfield 138, 3) := by decide +kernel
theorem d_Model_pass_19 : decode prog_9_method_32_code 19 = .ok (.isub, 1) := by decide +kernel
theorem d_Model_pass_20 : decode prog_9_method_32_code 20 = .ok (.if_icmp .gt 7, 3) := by decide +kernel
theorem d_Model_pass_23 : decode prog_9_method_32_code 23 = .ok (.iconst 0, 1) := by decide +kernel
theorem d_Model_pass_24 : decode prog_9_method_32_code 24 = .ok (.goto 4, 3) := by decide +kernel
theorem d_Model_pass_27 : decode prog_9_method_32_code 27 = .ok (.iconst 1, 1) := by decide +kernel
theorem d_Model_pass_28 : decode prog_9_method_32_code 28 = .ok (.putfield 104, 3) := by decide +kernel
theorem d_Model_pass_31 : decode prog_9_method_32_code 31 = .ok (.aload_n 0, 1) := by decide +kernel
theorem d_Model_pass_32 : decode prog_9_method_32_code 32 = .ok (.getfield 104, 3) := by decide +kernel
theorem d_Model_pass_35 : decode prog_9_method_32_code 35 = .ok (.ifCond .le 5, 3) := by decide +kernel
theorem d_Model_pass_38 : decode prog_9_method_32_code 38 = .ok (.iconst 0, 1) := by decide +kernel
theorem d_Model_pass_39 : decode prog_9_method_32_code 39 = .ok (.ireturn, 1) := by decide +kernel
theorem d_Model_pass_40 : decode prog_9_method_32_code 40 = .ok (.iconst 0, 1) := by decide +kernel
theorem d_Model_pass_41 : decode prog_9_method_32_code 41 = .ok (.istore_n 2, 1) := by decide +kernel
theorem d_Model_pass_42 : decode prog_9_method_32_code 42 = .ok (.iconst 0, 1) := by decide +kernel
theorem d_Model_pass_43 : decode prog_9_method_32_code 43 = .ok (.istore_n 3, 1) := by decide +kernel
theorem d_Model_pass_44 : decode prog_9_method_32_code 44 = .ok (.iload_n 3, 1) := by decide +kernel
theorem d_Model_pass_45 : decode prog_9_method_32_code 45 = .ok (.iload_n 1, 1) := by decide +kernel
theorem d_Model_pass_46 : decode prog_9_method_32_code 46 = .ok (.if_icmp .ge 128, 3) := by decide +kernel
theorem d_Model_pass_49 : decode prog_9_method_32_code 49 = .ok (.aload_n 0, 1) := by decide +kernel
theorem d_Model_pass_50 : decode prog_9_method_32_code 50 = .ok (.dup, 1) := by decide +kernel
theorem d_Model_pass_51 : decode prog_9_method_32_code 51 = .ok (.getfield 138, 3) := by decide +kernel
theorem d_Model_pass_54 : decode prog_9_method_32_code 54 = .ok (.iconst 1, 1) := by decide +kernel
theorem d_Model_pass_55 : decode prog_9_method_32_code 55 = .ok (.iadd, 1) := by decide +kernel
theorem d_Model_pass_56 : decode prog_9_method_32_code 56 = .ok (.putfield 138, 3) := by decide +kernel
