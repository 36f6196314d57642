theorem dX4_told_29 : decode cX4_told 29 = .ok (.istore_n 3, 1) := by decide +kernel
theorem dX4_told_30 : decode cX4_told 30 = .ok (.iload_n 3, 1) := by decide +kernel
theorem dX4_told_31 : decode cX4_told 31 = .ok (.invokestatic 93, 3) := by decide +kernel
theorem dX4_told_34 : decode cX4_told 34 = .ok (.istore 4, 2) := by decide +kernel
theorem dX4_told_36 : decode cX4_told 36 = .ok (.iload_n 2, 1) := by decide +kernel
theorem dX4_told_37 : decode cX4_told 37 = .ok (.tableswitch 114 0 9 #[55, 57, 60, 65, 70, 75, 80, 85, 90, 104], 55) := by decide +kernel
theorem dX4_told_92 : decode cX4_told 92 = .ok (.iload_n 3, 1) := by decide +kernel
theorem dX4_told_93 : decode cX4_told 93 = .ok (.ireturn, 1) := by decide +kernel
theorem dX4_told_94 : decode cX4_told 94 = .ok (.iload 4, 2) := by decide +kernel
theorem dX4_told_96 : decode cX4_told 96 = .ok (.ireturn, 1) := by decide +kernel
theorem dX4_told_97 : decode cX4_told 97 = .ok (.iload_n 3, 1) := by decide +kernel
theorem dX4_told_98 : decode cX4_told 98 = .ok (.invokestatic 96, 3) := by decide +kernel
theorem dX4_told_101 : decode cX4_told 101 = .ok (.ireturn, 1) := by decide +kernel
theorem dX4_told_102 : decode cX4_told 102 = .ok (.iload_n 3, 1) := by decide +kernel
theorem dX4_told_103 : decode cX4_told 103 = .ok (.invokestatic 99, 3) := by decide +kernel
theorem dX4_told_106 : decode cX4_told 106 = .ok (.ireturn, 1) := by decide +kernel
theorem dX4_told_107 : decode cX4_told 107 = .ok (.iload_n 3, 1) := by decide +kernel
theorem dX4_told_108 : decode cX4_told 108 = .ok (.invokestatic 58, 3) := by decide +kernel
theorem dX4_told_111 : decode cX4_told 111 = .ok (.ireturn, 1) := by decide +kernel
theorem dX4_told_112 : decode cX4_told 112 = .ok (.iload_n 3, 1) := by decide +kernel
theorem dX4_told_113 : decode cX4_told 113 = .ok (.invokestatic 102, 3) := by decide +kernel
theorem dX4_told_116 : decode cX4_told 116 = .ok (.ireturn, 1) := by decide +kernel
theorem dX4_told_117 : decode cX4_told 117 = .ok (.iload_n 3, 1) := by decide +kernel
theorem dX4_told_118 : decode cX4_told 118 = .ok (.invokestatic 105, 3) := by decide +kernel
theorem dX4_told_121 : decode cX4_told 121 = .ok (.ireturn, 1) := by decide +kernel
theorem dX4_told_122 : decode cX4_told 122 = .ok (.iload_n 3, 1) := by decide +kernel
theorem dX4_told_123 : decode cX4_told 123 = .ok (.invokestatic 108, 3) := by decide +kernel
theorem dX4_told_126 : decode cX4_told 126 = .ok (.ireturn, 1) := by decide +kernel
theorem dX4_told_127 : decode cX4_told 127 = .ok (.iload 4, 2) := by decide +kernel
theorem dX4_told_129 : decode cX4_told 129 = .ok (.invokestatic 111, 3) := by decide +kernel
theorem dX4_told_132 : decode cX4_told 132 = .ok (.ifCond .eq 7, 3) := by decide +kernel
theorem dX4_told_135 : decode cX4_told 135 = .ok (.iconst 1, 1) := by decide +kernel
theorem dX4_told_136 : decode cX4_told 136 = .ok (.goto 4, 3) := by decide +kernel
theorem dX4_told_139 : decode cX4_told 139 = .ok (.iconst 0, 1) := by decide +kernel
theorem dX4_told_140 : decode cX4_told 140 = .ok (.ireturn, 1) := by decide +kernel
theorem dX4_told_141 : decode cX4_told 141 = .ok (.iload 4, 2) := by decide +kernel
theorem dX4_told_143 : decode cX4_told 143 = .ok (.iload_n 3, 1) := by decide +kernel
theorem dX4_told_144 : decode cX4_told 144 = .ok (.invokestatic 96, 3) := by decide +kernel
theorem dX4_told_147 : decode cX4_told 147 = .ok (.invokestatic 115, 3) := by decide +kernel
theorem dX4_told_150 : decode cX4_told 150 = .ok (.ireturn, 1) := by decide +kernel
theorem dX4_told_151 : decode cX4_told 151 = .ok (.iload_n 3, 1) := by decide +kernel
theorem dX4_told_152 : decode cX4_told 152 = .ok (.invokestatic 102, 3) := by decide +kernel
theorem dX4_told_155 : decode cX4_told 155 = .ok (.invokestatic 118, 3) := by decide +kernel
theorem dX4_told_158 : decode cX4_told 158 = .ok (.ireturn, 1) := by decide +kernel
theorem dX4_between_0 : decode cX4_between 0 = .ok (.iload_n 1, 1) := by decide +kernel
theorem dX4_between_1 : decode cX4_between 1 = .ok (.invokestatic 40, 3) := by decide +kernel
theorem dX4_between_4 : decode cX4_between 4 = .ok (.iload_n 2, 1) := by decide +kernel
theorem dX4_between_5 : decode cX4_between 5 = .ok (.invokestatic 40, 3) := by decide +kernel
theorem dX4_between_8 : decode cX4_between 8 = .ok (.iload_n 3, 1) := by decide +kernel
theorem dX4_between_9 : decode cX4_between 9 = .ok (.invokestatic 72, 3) := by decide +kernel
theorem dX4_between_12 : decode cX4_between 12 = .ok (.aload_n 0, 1) := by decide +kernel
theorem dX4_between_13 : decode cX4_between 13 = .ok (.iload_n 1, 1) := by decide +kernel
theorem dX4_between_14 : decode cX4_between 14 = .ok (.invokevirtual 75, 3) := by decide +kernel
theorem dX4_between_17 : decode cX4_between 17 = .ok (.istore 4, 2) := by decide +kernel
theorem dX4_between_19 : decode cX4_between 19 = .ok (.aload_n 0, 1) := by decide +kernel
theorem dX4_between_20 : decode cX4_between 20 = .ok (.iload_n 2, 1) := by decide +kernel
theorem dX4_between_21 : decode cX4_between 21 = .ok (.invokevirtual 75, 3) := by decide +kernel
theorem dX4_between_24 : decode cX4_between 24 = .ok (.istore 5, 2) := by decide +kernel
theorem dX4_between_26 : decode cX4_between 26 = .ok (.iload 5, 2) := by decide +kernel
theorem dX4_between_28 : decode cX4_between 28 = .ok (.iload 4, 2) := by decide +kernel
theorem dX4_between_30 : decode cX4_between 30 = .ok (.if_icmp .ge 15, 3) := by decide +kernel
theorem dX4_between_33 : decode cX4_between 33 = .ok (.iload 5, 2) := by decide +kernel
theorem dX4_between_35 : decode cX4_between 35 = .ok (.iload 4, 2) := by decide +kernel
theorem dX4_between_37 : decode cX4_between 37 = .ok (.iload_n 3, 1) := by decide +kernel
theorem dX4_between_38 : decode cX4_between 38 = .ok (.invokestatic 121, 3) := by decide +kernel
theorem dX4_between_41 : decode cX4_between 41 = .ok (.ineg, 1) := by decide +kernel
theorem dX4_between_42 : decode cX4_between 42 = .ok (.goto 11, 3) := by decide +kernel
theorem dX4_between_45 : decode cX4_between 45 = .ok (.iload 4, 2) := by decide +kernel
theorem dX4_between_47 : decode cX4_between 47 = .ok (.iload 5, 2) := by decide +kernel
theorem dX4_between_49 : decode cX4_between 49 = .ok (.iload_n 3, 1) := by decide +kernel
theorem dX4_between_50 : decode cX4_between 50 = .ok (.invokestatic 121, 3) := by decide +kernel
theorem dX4_between_53 : decode cX4_between 53 = .ok (.ireturn, 1) := by decide +kernel
theorem dX4_copy_0 : decode cX4_copy 0 = .ok (.iload_n 1, 1) := by decide +kernel
theorem dX4_copy_1 : decode cX4_copy 1 = .ok (.invokestatic 40, 3) := by decide +kernel
theorem dX4_copy_4 : decode cX4_copy 4 = .ok (.iload_n 2, 1) := by decide +kernel
theorem dX4_copy_5 : decode cX4_copy 5 = .ok (.invokestatic 40, 3) := by decide +kernel
theorem dX4_copy_8 : decode cX4_copy 8 = .ok (.aload_n 0, 1) := by decide +kernel
theorem dX4_copy_9 : decode cX4_copy 9 = .ok (.iload_n 2, 1) := by decide +kernel
theorem dX4_copy_10 : decode cX4_copy 10 = .ok (.aload_n 0, 1) := by decide +kernel
theorem dX4_copy_11 : decode cX4_copy 11 = .ok (.iload_n 1, 1) := by decide +kernel
theorem dX4_copy_12 : decode cX4_copy 12 = .ok (.invokevirtual 75, 3) := by decide +kernel
theorem dX4_copy_15 : decode cX4_copy 15 = .ok (.invokevirtual 50, 3) := by decide +kernel
theorem dX4_copy_18 : decode cX4_copy 18 = .ok (.ireturn, 1) := by decide +kernel
theorem dX4_holiday_0 : decode cX4_holiday 0 = .ok (.iload_n 1, 1) := by decide +kernel
theorem dX4_holiday_1 : decode cX4_holiday 1 = .ok (.iload_n 2, 1) := by decide +kernel
theorem dX4_holiday_2 : decode cX4_holiday 2 = .ok (.iload_n 3, 1) := by decide +kernel
theorem dX4_holiday_3 : decode cX4_holiday 3 = .ok (.iload 4, 2) := by decide +kernel
theorem dX4_holiday_5 : decode cX4_holiday 5 = .ok (.invokestatic 124, 3) := by decide +kernel
theorem dX4_holiday_8 : decode cX4_holiday 8 = .ok (.ifCond .ne 13, 3) := by decide +kernel
theorem dX4_holiday_11 : decode cX4_holiday 11 = .ok (.new 88, 3) := by decide +kernel
theorem dX4_holiday_14 : decode cX4_holiday 14 = .ok (.dup, 1) := by decide +kernel
theorem dX4_holiday_15 : decode cX4_holiday 15 = .ok (.ldc 130, 2) := by decide +kernel
theorem dX4_holiday_17 : decode cX4_holiday 17 = .ok (.invokespecial 92, 3) := by decide +kernel
theorem dX4_holiday_20 : decode cX4_holiday 20 = .ok (.athrow, 1) := by decide +kernel
theorem dX4_holiday_21 : decode cX4_holiday 21 = .ok (.aload_n 0, 1) := by decide +kernel
theorem dX4_holiday_22 : decode cX4_holiday 22 = .ok (.getfield 16, 3) := by decide +kernel
theorem dX4_holiday_25 : decode cX4_holiday 25 = .ok (.invokevirtual 132, 3) := by decide +kernel
theorem dX4_holiday_28 : decode cX4_holiday 28 = .ok (.bipush 12, 2) := by decide +kernel
theorem dX4_holiday_30 : decode cX4_holiday 30 = .ok (.if_icmp .lt 13, 3) := by decide +kernel
theorem dX4_holiday_33 : decode cX4_holiday 33 = .ok (.new 81, 3) := by decide +kernel
theorem dX4_holiday_36 : decode cX4_holiday 36 = .ok (.dup, 1) := by decide +kernel
theorem dX4_holiday_37 : decode cX4_holiday 37 = .ok (.ldc 136, 2) := by decide +kernel
theorem dX4_holiday_39 : decode cX4_holiday 39 = .ok (.invokespecial 85, 3) := by decide +kernel
theorem dX4_holiday_42 : decode cX4_holiday 42 = .ok (.athrow, 1) := by decide +kernel
theorem dX4_holiday_43 : decode cX4_holiday 43 = .ok (.aload_n 0, 1) := by decide +kernel
theorem dX4_holiday_44 : decode cX4_holiday 44 = .ok (.getfield 16, 3) := by decide +kernel
theorem dX4_holiday_47 : decode cX4_holiday 47 = .ok (.new 125, 3) := by decide +kernel
theorem dX4_holiday_50 : decode cX4_holiday 50 = .ok (.dup, 1) := by decide +kernel
theorem dX4_holiday_51 : decode cX4_holiday 51 = .ok (.iload_n 1, 1) := by decide +kernel
theorem dX4_holiday_52 : decode cX4_holiday 52 = .ok (.iload_n 2, 1) := by decide +kernel
theorem dX4_holiday_53 : decode cX4_holiday 53 = .ok (.iload_n 3, 1) := by decide +kernel
theorem dX4_holiday_54 : decode cX4_holiday 54 = .ok (.iload 4, 2) := by decide +kernel
theorem dX4_holiday_56 : decode cX4_holiday 56 = .ok (.invokespecial 138, 3) := by decide +kernel
theorem dX4_holiday_59 : decode cX4_holiday 59 = .ok (.invokevirtual 141, 3) := by decide +kernel
theorem dX4_holiday_62 : decode cX4_holiday 62 = .ok (.pop, 1) := by decide +kernel
theorem dX4_holiday_63 : decode cX4_holiday 63 = .ok (.aload_n 0, 1) := by decide +kernel
theorem dX4_holiday_64 : decode cX4_holiday 64 = .ok (.getfield 16, 3) := by decide +kernel
theorem dX4_holiday_67 : decode cX4_holiday 67 = .ok (.invokevirtual 132, 3) := by decide +kernel
theorem dX4_holiday_70 : decode cX4_holiday 70 = .ok (.ireturn, 1) := by decide +kernel
theorem dX4_noHoliday_0 : decode cX4_noHoliday 0 = .ok (.iload_n 1, 1) := by decide +kernel
theorem dX4_noHoliday_1 : decode cX4_noHoliday 1 = .ok (.ifCond .lt 14, 3) := by decide +kernel
theorem dX4_noHoliday_4 : decode cX4_noHoliday 4 = .ok (.iload_n 1, 1) := by decide +kernel
theorem dX4_noHoliday_5 : decode cX4_noHoliday 5 = .ok (.aload_n 0, 1) := by decide +kernel
theorem dX4_noHoliday_6 : decode cX4_noHoliday 6 = .ok (.getfield 16, 3) := by decide +kernel
theorem dX4_noHoliday_9 : decode cX4_noHoliday 9 = .ok (.invokevirtual 132, 3) := by decide +kernel
theorem dX4_noHoliday_12 : decode cX4_noHoliday 12 = .ok (.if_icmp .lt 13, 3) := by decide +kernel
theorem dX4_noHoliday_15 : decode cX4_noHoliday 15 = .ok (.new 145, 3) := by decide +kernel
theorem dX4_noHoliday_18 : decode cX4_noHoliday 18 = .ok (.dup, 1) := by decide +kernel
theorem dX4_noHoliday_19 : decode cX4_noHoliday 19 = .ok (.ldc 130, 2) := by decide +kernel
theorem dX4_noHoliday_21 : decode cX4_noHoliday 21 = .ok (.invokespecial 147, 3) := by decide +kernel
theorem dX4_noHoliday_24 : decode cX4_noHoliday 24 = .ok (.athrow, 1) := by decide +kernel
theorem dX4_noHoliday_25 : decode cX4_noHoliday 25 = .ok (.aload_n 0, 1) := by decide +kernel
theorem dX4_noHoliday_26 : decode cX4_noHoliday 26 = .ok (.getfield 16, 3) := by decide +kernel
theorem dX4_noHoliday_29 : decode cX4_noHoliday 29 = .ok (.iload_n 1, 1) := by decide +kernel
theorem dX4_noHoliday_30 : decode cX4_noHoliday 30 = .ok (.invokevirtual 148, 3) := by decide +kernel
theorem dX4_noHoliday_33 : decode cX4_noHoliday 33 = .ok (.pop, 1) := by decide +kernel
theorem dX4_noHoliday_34 : decode cX4_noHoliday 34 = .ok (.aload_n 0, 1) := by decide +kernel
theorem dX4_noHoliday_35 : decode cX4_noHoliday 35 = .ok (.getfield 16, 3) := by decide +kernel
theorem dX4_noHoliday_38 : decode cX4_noHoliday 38 = .ok (.invokevirtual 132, 3) := by decide +kernel
theorem dX4_noHoliday_41 : decode cX4_noHoliday 41 = .ok (.ireturn, 1) := by decide +kernel
theorem dX4_weekend_0 : decode cX4_weekend 0 = .ok (.iload_n 1, 1) := by decide +kernel
theorem dX4_weekend_1 : decode cX4_weekend 1 = .ok (.ifCond .lt 9, 3) := by decide +kernel
theorem dX4_weekend_4 : decode cX4_weekend 4 = .ok (.iload_n 1, 1) := by decide +kernel
theorem dX4_weekend_5 : decode cX4_weekend 5 = .ok (.bipush 126, 2) := by decide +kernel
theorem dX4_weekend_7 : decode cX4_weekend 7 = .ok (.if_icmp .le 13, 3) := by decide +kernel
theorem dX4_weekend_10 : decode cX4_weekend 10 = .ok (.new 88, 3) := by decide +kernel
theorem dX4_weekend_13 : decode cX4_weekend 13 = .ok (.dup, 1) := by decide +kernel
theorem dX4_weekend_14 : decode cX4_weekend 14 = .ok (.ldc 152, 2) := by decide +kernel
theorem dX4_weekend_16 : decode cX4_weekend 16 = .ok (.invokespecial 92, 3) := by decide +kernel
theorem dX4_weekend_19 : decode cX4_weekend 19 = .ok (.athrow, 1) := by decide +kernel
theorem dX4_weekend_20 : decode cX4_weekend 20 = .ok (.aload_n 0, 1) := by decide +kernel
theorem dX4_weekend_21 : decode cX4_weekend 21 = .ok (.getfield 154, 3) := by decide +kernel
theorem dX4_weekend_24 : decode cX4_weekend 24 = .ok (.istore_n 2, 1) := by decide +kernel
theorem dX4_weekend_25 : decode cX4_weekend 25 = .ok (.aload_n 0, 1) := by decide +kernel
theorem dX4_weekend_26 : decode cX4_weekend 26 = .ok (.iload_n 1, 1) := by decide +kernel
theorem dX4_weekend_27 : decode cX4_weekend 27 = .ok (.putfield 154, 3) := by decide +kernel
theorem dX4_weekend_30 : decode cX4_weekend 30 = .ok (.iload_n 2, 1) := by decide +kernel
theorem dX4_weekend_31 : decode cX4_weekend 31 = .ok (.ireturn, 1) := by decide +kernel
theorem dX4_isHoliday_0 : decode cX4_isHoliday 0 = .ok (.iload_n 1, 1) := by decide +kernel
theorem dX4_isHoliday_1 : decode cX4_isHoliday 1 = .ok (.invokestatic 40, 3) := by decide +kernel
theorem dX4_isHoliday_4 : decode cX4_isHoliday 4 = .ok (.aload_n 0, 1) := by decide +kernel
theorem dX4_isHoliday_5 : decode cX4_isHoliday 5 = .ok (.iload_n 1, 1) := by decide +kernel
theorem dX4_isHoliday_6 : decode cX4_isHoliday 6 = .ok (.invokevirtual 75, 3) := by decide +kernel
theorem dX4_isHoliday_9 : decode cX4_isHoliday 9 = .ok (.istore_n 2, 1) := by decide +kernel
theorem dX4_isHoliday_10 : decode cX4_isHoliday 10 = .ok (.iconst 0, 1) := by decide +kernel
theorem dX4_isHoliday_11 : decode cX4_isHoliday 11 = .ok (.istore_n 3, 1) := by decide +kernel
theorem dX4_isHoliday_12 : decode cX4_isHoliday 12 = .ok (.iload_n 3, 1) := by decide +kernel
theorem dX4_isHoliday_13 : decode cX4_isHoliday 13 = .ok (.aload_n 0, 1) := by decide +kernel
theorem dX4_isHoliday_14 : decode cX4_isHoliday 14 = .ok (.getfield 16, 3) := by decide +kernel
theorem dX4_isHoliday_17 : decode cX4_isHoliday 17 = .ok (.invokevirtual 132, 3) := by decide +kernel
theorem dX4_isHoliday_20 : decode cX4_isHoliday 20 = .ok (.if_icmp .ge 29, 3) := by decide +kernel
theorem dX4_isHoliday_23 : decode cX4_isHoliday 23 = .ok (.aload_n 0, 1) := by decide +kernel
theorem dX4_isHoliday_24 : decode cX4_isHoliday 24 = .ok (.getfield 16, 3) := by decide +kernel
theorem dX4_isHoliday_27 : decode cX4_isHoliday 27 = .ok (.iload_n 3, 1) := by decide +kernel
theorem dX4_isHoliday_28 : decode cX4_isHoliday 28 = .ok (.invokevirtual 158, 3) := by decide +kernel
theorem dX4_isHoliday_31 : decode cX4_isHoliday 31 = .ok (.checkcast 125, 3) := by decide +kernel
theorem dX4_isHoliday_34 : decode cX4_isHoliday 34 = .ok (.iload_n 2, 1) := by decide +kernel
theorem dX4_isHoliday_35 : decode cX4_isHoliday 35 = .ok (.invokevirtual 161, 3) := by decide +kernel
theorem dX4_isHoliday_38 : decode cX4_isHoliday 38 = .ok (.ifCond .eq 5, 3) := by decide +kernel
theorem dX4_isHoliday_41 : decode cX4_isHoliday 41 = .ok (.iload_n 3, 1) := by decide +kernel
theorem dX4_isHoliday_42 : decode cX4_isHoliday 42 = .ok (.ireturn, 1) := by decide +kernel
theorem dX4_isHoliday_43 : decode cX4_isHoliday 43 = .ok (.iinc 3 1, 3) := by decide +kernel
theorem dX4_isHoliday_46 : decode cX4_isHoliday 46 = .ok (.goto (-34), 3) := by decide +kernel
theorem dX4_isHoliday_49 : decode cX4_isHoliday 49 = .ok (.iconst (-1), 1) := by decide +kernel
theorem dX4_isHoliday_50 : decode cX4_isHoliday 50 = .ok (.ireturn, 1) := by decide +kernel
theorem dX4_work_0 : decode cX4_work 0 = .ok (.iload_n 1, 1) := by decide +kernel
theorem dX4_work_1 : decode cX4_work 1 = .ok (.invokestatic 40, 3) := by decide +kernel
theorem dX4_work_4 : decode cX4_work 4 = .ok (.iload_n 2, 1) := by decide +kernel
theorem dX4_work_5 : decode cX4_work 5 = .ok (.invokestatic 40, 3) := by decide +kernel
theorem dX4_work_8 : decode cX4_work 8 = .ok (.aload_n 0, 1) := by decide +kernel
theorem dX4_work_9 : decode cX4_work 9 = .ok (.iload_n 1, 1) := by decide +kernel
theorem dX4_work_10 : decode cX4_work 10 = .ok (.invokevirtual 75, 3) := by decide +kernel
theorem dX4_work_13 : decode cX4_work 13 = .ok (.istore_n 3, 1) := by decide +kernel
theorem dX4_work_14 : decode cX4_work 14 = .ok (.aload_n 0, 1) := by decide +kernel
theorem dX4_work_15 : decode cX4_work 15 = .ok (.iload_n 2, 1) := by decide +kernel
theorem dX4_work_16 : decode cX4_work 16 = .ok (.invokevirtual 75, 3) := by decide +kernel
theorem dX4_work_19 : decode cX4_work 19 = .ok (.istore 4, 2) := by decide +kernel
theorem dX4_work_21 : decode cX4_work 21 = .ok (.iload 4, 2) := by decide +kernel
theorem dX4_work_23 : decode cX4_work 23 = .ok (.iload_n 3, 1) := by decide +kernel
theorem dX4_work_24 : decode cX4_work 24 = .ok (.isub, 1) := by decide +kernel
theorem dX4_work_25 : decode cX4_work 25 = .ok (.invokestatic 164, 3) := by decide +kernel
theorem dX4_work_28 : decode cX4_work 28 = .ok (.sipush 4000, 3) := by decide +kernel
theorem dX4_work_31 : decode cX4_work 31 = .ok (.if_icmp .le 13, 3) := by decide +kernel
theorem dX4_work_34 : decode cX4_work 34 = .ok (.new 88, 3) := by decide +kernel
theorem dX4_work_37 : decode cX4_work 37 = .ok (.dup, 1) := by decide +kernel
theorem dX4_work_38 : decode cX4_work 38 = .ok (.ldc 169, 2) := by decide +kernel
theorem dX4_work_40 : decode cX4_work 40 = .ok (.invokespecial 92, 3) := by decide +kernel
theorem dX4_work_43 : decode cX4_work 43 = .ok (.athrow, 1) := by decide +kernel
theorem dX4_work_44 : decode cX4_work 44 = .ok (.iload_n 3, 1) := by decide +kernel
theorem dX4_work_45 : decode cX4_work 45 = .ok (.iload 4, 2) := by decide +kernel
theorem dX4_work_47 : decode cX4_work 47 = .ok (.invokestatic 171, 3) := by decide +kernel
theorem dX4_work_50 : decode cX4_work 50 = .ok (.istore 5, 2) := by decide +kernel
theorem dX4_work_52 : decode cX4_work 52 = .ok (.iconst 0, 1) := by decide +kernel
theorem dX4_work_53 : decode cX4_work 53 = .ok (.istore 6, 2) := by decide +kernel
theorem dX4_work_55 : decode cX4_work 55 = .ok (.aload_n 0, 1) := by decide +kernel
theorem dX4_work_56 : decode cX4_work 56 = .ok (.getfield 23, 3) := by decide +kernel
theorem dX4_work_59 : decode cX4_work 59 = .ok (.invokevirtual 174, 3) := by decide +kernel
theorem dX4_work_62 : decode cX4_work 62 = .ok (.iload_n 3, 1) := by decide +kernel
theorem dX4_work_63 : decode cX4_work 63 = .ok (.iload 4, 2) := by decide +kernel
theorem dX4_work_65 : decode cX4_work 65 = .ok (.invokestatic 177, 3) := by decide +kernel
theorem dX4_work_68 : decode cX4_work 68 = .ok (.istore 7, 2) := by decide +kernel
theorem dX4_work_70 : decode cX4_work 70 = .ok (.iload 7, 2) := by decide +kernel
theorem dX4_work_72 : decode cX4_work 72 = .ok (.iload 5, 2) := by decide +kernel
theorem dX4_work_74 : decode cX4_work 74 = .ok (.if_icmp .ge 21, 3) := by decide +kernel
theorem dX4_work_77 : decode cX4_work 77 = .ok (.aload_n 0, 1) := by decide +kernel
theorem dX4_work_78 : decode cX4_work 78 = .ok (.iload 7, 2) := by decide +kernel
theorem dX4_work_80 : decode cX4_work 80 = .ok (.invokevirtual 180, 3) := by decide +kernel
theorem dX4_work_83 : decode cX4_work 83 = .ok (.ifCond .eq 6, 3) := by decide +kernel
theorem dX4_work_86 : decode cX4_work 86 = .ok (.iinc 6 1, 3) := by decide +kernel
theorem dX4_work_89 : decode cX4_work 89 = .ok (.iinc 7 1, 3) := by decide +kernel
theorem dX4_work_92 : decode cX4_work 92 = .ok (.goto (-22), 3) := by decide +kernel
theorem dX4_work_95 : decode cX4_work 95 = .ok (.iload 4, 2) := by decide +kernel
theorem dX4_work_97 : decode cX4_work 97 = .ok (.iload_n 3, 1) := by decide +kernel
theorem dX4_work_98 : decode cX4_work 98 = .ok (.if_icmp .ge 9, 3) := by decide +kernel
theorem dX4_work_101 : decode cX4_work 101 = .ok (.iload 6, 2) := by decide +kernel
theorem dX4_work_103 : decode cX4_work 103 = .ok (.ineg, 1) := by decide +kernel
theorem dX4_work_104 : decode cX4_work 104 = .ok (.goto 5, 3) := by decide +kernel
theorem dX4_work_107 : decode cX4_work 107 = .ok (.iload 6, 2) := by decide +kernel
theorem dX4_work_109 : decode cX4_work 109 = .ok (.ireturn, 1) := by decide +kernel
theorem dX4_moveWork_0 : decode cX4_moveWork 0 = .ok (.iload_n 1, 1) := by decide +kernel
theorem dX4_moveWork_1 : decode cX4_moveWork 1 = .ok (.invokestatic 40, 3) := by decide +kernel
theorem dX4_moveWork_4 : decode cX4_moveWork 4 = .ok (.aload_n 0, 1) := by decide +kernel
theorem dX4_moveWork_5 : decode cX4_moveWork 5 = .ok (.iload_n 1, 1) := by decide +kernel
theorem dX4_moveWork_6 : decode cX4_moveWork 6 = .ok (.invokevirtual 75, 3) := by decide +kernel
theorem dX4_moveWork_9 : decode cX4_moveWork 9 = .ok (.istore_n 3, 1) := by decide +kernel
theorem dX4_moveWork_10 : decode cX4_moveWork 10 = .ok (.iload_n 2, 1) := by decide +kernel
theorem dX4_moveWork_11 : decode cX4_moveWork 11 = .ok (.sipush (-1000), 3) := by decide +kernel
theorem dX4_moveWork_14 : decode cX4_moveWork 14 = .ok (.if_icmp .lt 10, 3) := by decide +kernel
theorem dX4_moveWork_17 : decode cX4_moveWork 17 = .ok (.iload_n 2, 1) := by decide +kernel
theorem dX4_moveWork_18 : decode cX4_moveWork 18 = .ok (.sipush 1000, 3) := by decide +kernel
theorem dX4_moveWork_21 : decode cX4_moveWork 21 = .ok (.if_icmp .le 13, 3) := by decide +kernel
theorem dX4_moveWork_24 : decode cX4_moveWork 24 = .ok (.new 88, 3) := by decide +kernel
theorem dX4_moveWork_27 : decode cX4_moveWork 27 = .ok (.dup, 1) := by decide +kernel
theorem dX4_moveWork_28 : decode cX4_moveWork 28 = .ok (.ldc 183, 2) := by decide +kernel
theorem dX4_moveWork_30 : decode cX4_moveWork 30 = .ok (.invokespecial 92, 3) := by decide +kernel
theorem dX4_moveWork_33 : decode cX4_moveWork 33 = .ok (.athrow, 1) := by decide +kernel
theorem dX4_moveWork_34 : decode cX4_moveWork 34 = .ok (.iload_n 2, 1) := by decide +kernel
theorem dX4_moveWork_35 : decode cX4_moveWork 35 = .ok (.ifCond .ge 7, 3) := by decide +kernel
theorem dX4_moveWork_38 : decode cX4_moveWork 38 = .ok (.iconst (-1), 1) := by decide +kernel
theorem dX4_moveWork_39 : decode cX4_moveWork 39 = .ok (.goto 4, 3) := by decide +kernel
theorem dX4_moveWork_42 : decode cX4_moveWork 42 = .ok (.iconst 1, 1) := by decide +kernel
theorem dX4_moveWork_43 : decode cX4_moveWork 43 = .ok (.istore 4, 2) := by decide +kernel
theorem dX4_moveWork_45 : decode cX4_moveWork 45 = .ok (.iload_n 2, 1) := by decide +kernel
theorem dX4_moveWork_46 : decode cX4_moveWork 46 = .ok (.invokestatic 164, 3) := by decide +kernel
theorem dX4_moveWork_49 : decode cX4_moveWork 49 = .ok (.istore 5, 2) := by decide +kernel
theorem dX4_moveWork_51 : decode cX4_moveWork 51 = .ok (.aload_n 0, 1) := by decide +kernel
theorem dX4_moveWork_52 : decode cX4_moveWork 52 = .ok (.getfield 23, 3) := by decide +kernel
theorem dX4_moveWork_55 : decode cX4_moveWork 55 = .ok (.invokevirtual 174, 3) := by decide +kernel
theorem dX4_moveWork_58 : decode cX4_moveWork 58 = .ok (.iload 5, 2) := by decide +kernel
theorem dX4_moveWork_60 : decode cX4_moveWork 60 = .ok (.ifCond .le 33, 3) := by decide +kernel
theorem dX4_moveWork_63 : decode cX4_moveWork 63 = .ok (.iload_n 3, 1) := by decide +kernel
theorem dX4_moveWork_64 : decode cX4_moveWork 64 = .ok (.iload 4, 2) := by decide +kernel
theorem dX4_moveWork_66 : decode cX4_moveWork 66 = .ok (.iadd, 1) := by decide +kernel
theorem dX4_moveWork_67 : decode cX4_moveWork 67 = .ok (.i2l, 1) := by decide +kernel
theorem dX4_moveWork_68 : decode cX4_moveWork 68 = .ok (.invokestatic 54, 3) := by decide +kernel
theorem dX4_moveWork_71 : decode cX4_moveWork 71 = .ok (.ifCond .eq 22, 3) := by decide +kernel
theorem dX4_moveWork_74 : decode cX4_moveWork 74 = .ok (.iload_n 3, 1) := by decide +kernel
theorem dX4_moveWork_75 : decode cX4_moveWork 75 = .ok (.iload 4, 2) := by decide +kernel
theorem dX4_moveWork_77 : decode cX4_moveWork 77 = .ok (.iadd, 1) := by decide +kernel
theorem dX4_moveWork_78 : decode cX4_moveWork 78 = .ok (.istore_n 3, 1) := by decide +kernel
theorem dX4_moveWork_79 : decode cX4_moveWork 79 = .ok (.aload_n 0, 1) := by decide +kernel
theorem dX4_moveWork_80 : decode cX4_moveWork 80 = .ok (.iload_n 3, 1) := by decide +kernel
theorem dX4_moveWork_81 : decode cX4_moveWork 81 = .ok (.invokevirtual 180, 3) := by decide +kernel
theorem dX4_moveWork_84 : decode cX4_moveWork 84 = .ok (.ifCond .eq (-26), 3) := by decide +kernel
theorem dX4_moveWork_87 : decode cX4_moveWork 87 = .ok (.iinc 5 (-1), 3) := by decide +kernel
theorem dX4_moveWork_90 : decode cX4_moveWork 90 = .ok (.goto (-32), 3) := by decide +kernel
theorem dX4_moveWork_93 : decode cX4_moveWork 93 = .ok (.iload 5, 2) := by decide +kernel
theorem dX4_moveWork_95 : decode cX4_moveWork 95 = .ok (.ifCond .le 13, 3) := by decide +kernel
theorem dX4_moveWork_98 : decode cX4_moveWork 98 = .ok (.new 81, 3) := by decide +kernel
theorem dX4_moveWork_101 : decode cX4_moveWork 101 = .ok (.dup, 1) := by decide +kernel
theorem dX4_moveWork_102 : decode cX4_moveWork 102 = .ok (.ldc 83, 2) := by decide +kernel
theorem dX4_moveWork_104 : decode cX4_moveWork 104 = .ok (.invokespecial 85, 3) := by decide +kernel
theorem dX4_moveWork_107 : decode cX4_moveWork 107 = .ok (.athrow, 1) := by decide +kernel
theorem dX4_moveWork_108 : decode cX4_moveWork 108 = .ok (.aload_n 0, 1) := by decide +kernel
theorem dX4_moveWork_109 : decode cX4_moveWork 109 = .ok (.iload_n 1, 1) := by decide +kernel
theorem dX4_moveWork_110 : decode cX4_moveWork 110 = .ok (.iload_n 3, 1) := by decide +kernel
theorem dX4_moveWork_111 : decode cX4_moveWork 111 = .ok (.invokevirtual 50, 3) := by decide +kernel
theorem dX4_moveWork_114 : decode cX4_moveWork 114 = .ok (.ireturn, 1) := by decide +kernel
theorem dX4_write_0 : decode cX4_write 0 = .ok (.iload_n 1, 1) := by decide +kernel
theorem dX4_write_1 : decode cX4_write 1 = .ok (.invokestatic 40, 3) := by decide +kernel
theorem dX4_write_4 : decode cX4_write 4 = .ok (.iload_n 2, 1) := by decide +kernel
theorem dX4_write_5 : decode cX4_write 5 = .ok (.ifCond .lt 8, 3) := by decide +kernel
theorem dX4_write_8 : decode cX4_write 8 = .ok (.iload_n 2, 1) := by decide +kernel
theorem dX4_write_9 : decode cX4_write 9 = .ok (.iconst 2, 1) := by decide +kernel
theorem dX4_write_10 : decode cX4_write 10 = .ok (.if_icmp .le 13, 3) := by decide +kernel
theorem dX4_write_13 : decode cX4_write 13 = .ok (.new 88, 3) := by decide +kernel
theorem dX4_write_16 : decode cX4_write 16 = .ok (.dup, 1) := by decide +kernel
theorem dX4_write_17 : decode cX4_write 17 = .ok (.ldc 185, 2) := by decide +kernel
theorem dX4_write_19 : decode cX4_write 19 = .ok (.invokespecial 92, 3) := by decide +kernel
theorem dX4_write_22 : decode cX4_write 22 = .ok (.athrow, 1) := by decide +kernel
theorem dX4_write_23 : decode cX4_write 23 = .ok (.aload_n 0, 1) := by decide +kernel
theorem dX4_write_24 : decode cX4_write 24 = .ok (.iload_n 1, 1) := by decide +kernel
theorem dX4_write_25 : decode cX4_write 25 = .ok (.invokevirtual 75, 3) := by decide +kernel
theorem dX4_write_28 : decode cX4_write 28 = .ok (.istore_n 3, 1) := by decide +kernel
theorem dX4_write_29 : decode cX4_write 29 = .ok (.aload_n 0, 1) := by decide +kernel
theorem dX4_write_30 : decode cX4_write 30 = .ok (.getfield 30, 3) := by decide +kernel
theorem dX4_write_33 : decode cX4_write 33 = .ok (.invokevirtual 187, 3) := by decide +kernel
theorem dX4_write_36 : decode cX4_write 36 = .ok (.iload_n 2, 1) := by decide +kernel
theorem dX4_write_37 : decode cX4_write 37 = .ok (.lookupswitch 43 #[(0, 27), (1, 35)], 27) := by decide +kernel
theorem dX4_write_64 : decode cX4_write 64 = .ok (.aload_n 0, 1) := by decide +kernel
theorem dX4_write_65 : decode cX4_write 65 = .ok (.iload_n 3, 1) := by decide +kernel
theorem dX4_write_66 : decode cX4_write 66 = .ok (.invokevirtual 190, 3) := by decide +kernel
theorem dX4_write_69 : decode cX4_write 69 = .ok (.goto 16, 3) := by decide +kernel
theorem dX4_write_72 : decode cX4_write 72 = .ok (.aload_n 0, 1) := by decide +kernel
theorem dX4_write_73 : decode cX4_write 73 = .ok (.iload_n 3, 1) := by decide +kernel
theorem dX4_write_74 : decode cX4_write 74 = .ok (.invokevirtual 193, 3) := by decide +kernel
theorem dX4_write_77 : decode cX4_write 77 = .ok (.goto 8, 3) := by decide +kernel
theorem dX4_write_80 : decode cX4_write 80 = .ok (.aload_n 0, 1) := by decide +kernel
theorem dX4_write_81 : decode cX4_write 81 = .ok (.iload_n 3, 1) := by decide +kernel
theorem dX4_write_82 : decode cX4_write 82 = .ok (.invokevirtual 196, 3) := by decide +kernel
theorem dX4_write_85 : decode cX4_write 85 = .ok (.aload_n 0, 1) := by decide +kernel
theorem dX4_write_86 : decode cX4_write 86 = .ok (.getfield 30, 3) := by decide +kernel
theorem dX4_write_89 : decode cX4_write 89 = .ok (.invokevirtual 199, 3) := by decide +kernel
theorem dX4_write_92 : decode cX4_write 92 = .ok (.ireturn, 1) := by decide +kernel
theorem dX4_charAt_0 : decode cX4_charAt 0 = .ok (.iload_n 1, 1) := by decide +kernel
theorem dX4_charAt_1 : decode cX4_charAt 1 = .ok (.ifCond .lt 14, 3) := by decide +kernel
theorem dX4_charAt_4 : decode cX4_charAt 4 = .ok (.iload_n 1, 1) := by decide +kernel
theorem dX4_charAt_5 : decode cX4_charAt 5 = .ok (.aload_n 0, 1) := by decide +kernel
theorem dX4_charAt_6 : decode cX4_charAt 6 = .ok (.getfield 30, 3) := by decide +kernel
theorem dX4_charAt_9 : decode cX4_charAt 9 = .ok (.invokevirtual 199, 3) := by decide +kernel
theorem dX4_charAt_12 : decode cX4_charAt 12 = .ok (.if_icmp .lt 13, 3) := by decide +kernel
theorem dX4_charAt_15 : decode cX4_charAt 15 = .ok (.new 145, 3) := by decide +kernel
theorem dX4_charAt_18 : decode cX4_charAt 18 = .ok (.dup, 1) := by decide +kernel
theorem dX4_charAt_19 : decode cX4_charAt 19 = .ok (.ldc 200, 2) := by decide +kernel
theorem dX4_charAt_21 : decode cX4_charAt 21 = .ok (.invokespecial 147, 3) := by decide +kernel
theorem dX4_charAt_24 : decode cX4_charAt 24 = .ok (.athrow, 1) := by decide +kernel
theorem dX4_charAt_25 : decode cX4_charAt 25 = .ok (.aload_n 0, 1) := by decide +kernel
theorem dX4_charAt_26 : decode cX4_charAt 26 = .ok (.getfield 30, 3) := by decide +kernel
theorem dX4_charAt_29 : decode cX4_charAt 29 = .ok (.iload_n 1, 1) := by decide +kernel
theorem dX4_charAt_30 : decode cX4_charAt 30 = .ok (.invokevirtual 202, 3) := by decide +kernel
theorem dX4_charAt_33 : decode cX4_charAt 33 = .ok (.ireturn, 1) := by decide +kernel
theorem dX4_type_0 : decode cX4_type 0 = .ok (.iload_n 1, 1) := by decide +kernel
theorem dX4_type_1 : decode cX4_type 1 = .ok (.bipush 32, 2) := by decide +kernel
theorem dX4_type_3 : decode cX4_type 3 = .ok (.if_icmp .lt 9, 3) := by decide +kernel
theorem dX4_type_6 : decode cX4_type 6 = .ok (.iload_n 1, 1) := by decide +kernel
theorem dX4_type_7 : decode cX4_type 7 = .ok (.bipush 126, 2) := by decide +kernel
theorem dX4_type_9 : decode cX4_type 9 = .ok (.if_icmp .le 13, 3) := by decide +kernel
theorem dX4_type_12 : decode cX4_type 12 = .ok (.new 88, 3) := by decide +kernel
theorem dX4_type_15 : decode cX4_type 15 = .ok (.dup, 1) := by decide +kernel
theorem dX4_type_16 : decode cX4_type 16 = .ok (.ldc 205, 2) := by decide +kernel
theorem dX4_type_18 : decode cX4_type 18 = .ok (.invokespecial 92, 3) := by decide +kernel
theorem dX4_type_21 : decode cX4_type 21 = .ok (.athrow, 1) := by decide +kernel
theorem dX4_type_22 : decode cX4_type 22 = .ok (.aload_n 0, 1) := by decide +kernel
theorem dX4_type_23 : decode cX4_type 23 = .ok (.getfield 34, 3) := by decide +kernel
theorem dX4_type_26 : decode cX4_type 26 = .ok (.invokevirtual 207, 3) := by decide +kernel
theorem dX4_type_29 : decode cX4_type 29 = .ok (.ifCond .eq 13, 3) := by decide +kernel
theorem dX4_type_32 : decode cX4_type 32 = .ok (.new 81, 3) := by decide +kernel
theorem dX4_type_35 : decode cX4_type 35 = .ok (.dup, 1) := by decide +kernel
theorem dX4_type_36 : decode cX4_type 36 = .ok (.ldc 211, 2) := by decide +kernel
theorem dX4_type_38 : decode cX4_type 38 = .ok (.invokespecial 85, 3) := by decide +kernel
theorem dX4_type_41 : decode cX4_type 41 = .ok (.athrow, 1) := by decide +kernel
theorem dX4_type_42 : decode cX4_type 42 = .ok (.aload_n 0, 1) := by decide +kernel
theorem dX4_type_43 : decode cX4_type 43 = .ok (.getfield 34, 3) := by decide +kernel
theorem dX4_type_46 : decode cX4_type 46 = .ok (.iload_n 1, 1) := by decide +kernel
theorem dX4_type_47 : decode cX4_type 47 = .ok (.invokevirtual 213, 3) := by decide +kernel
theorem dX4_type_50 : decode cX4_type 50 = .ok (.aload_n 0, 1) := by decide +kernel
theorem dX4_type_51 : decode cX4_type 51 = .ok (.getfield 34, 3) := by decide +kernel
theorem dX4_type_54 : decode cX4_type 54 = .ok (.invokevirtual 199, 3) := by decide +kernel
theorem dX4_type_57 : decode cX4_type 57 = .ok (.ireturn, 1) := by decide +kernel
theorem dX4_read_0 : decode cX4_read 0 = .ok (.iload_n 1, 1) := by decide +kernel
theorem dX4_read_1 : decode cX4_read 1 = .ok (.invokestatic 40, 3) := by decide +kernel
theorem dX4_read_4 : decode cX4_read 4 = .ok (.aload_n 0, 1) := by decide +kernel
theorem dX4_read_5 : decode cX4_read 5 = .ok (.invokevirtual 215, 3) := by decide +kernel
theorem dX4_read_8 : decode cX4_read 8 = .ok (.istore_n 2, 1) := by decide +kernel
theorem dX4_read_9 : decode cX4_read 9 = .ok (.iload_n 2, 1) := by decide +kernel
theorem dX4_read_10 : decode cX4_read 10 = .ok (.ifCond .ge 7, 3) := by decide +kernel
theorem dX4_read_13 : decode cX4_read 13 = .ok (.iconst (-1), 1) := by decide +kernel
theorem dX4_read_14 : decode cX4_read 14 = .ok (.goto 8, 3) := by decide +kernel
theorem dX4_read_17 : decode cX4_read 17 = .ok (.aload_n 0, 1) := by decide +kernel
theorem dX4_read_18 : decode cX4_read 18 = .ok (.iload_n 2, 1) := by decide +kernel
theorem dX4_read_19 : decode cX4_read 19 = .ok (.invokevirtual 218, 3) := by decide +kernel
theorem dX4_read_22 : decode cX4_read 22 = .ok (.istore_n 3, 1) := by decide +kernel
theorem dX4_read_23 : decode cX4_read 23 = .ok (.aload_n 0, 1) := by decide +kernel
theorem dX4_read_24 : decode cX4_read 24 = .ok (.getfield 34, 3) := by decide +kernel
theorem dX4_read_27 : decode cX4_read 27 = .ok (.invokevirtual 187, 3) := by decide +kernel
theorem dX4_read_30 : decode cX4_read 30 = .ok (.iload_n 2, 1) := by decide +kernel
theorem dX4_read_31 : decode cX4_read 31 = .ok (.ifCond .lt 11, 3) := by decide +kernel
theorem dX4_read_34 : decode cX4_read 34 = .ok (.iload_n 3, 1) := by decide +kernel
theorem dX4_read_35 : decode cX4_read 35 = .ok (.iconst (-1), 1) := by decide +kernel
theorem dX4_read_36 : decode cX4_read 36 = .ok (.if_icmp .ne 6, 3) := by decide +kernel
theorem dX4_read_39 : decode cX4_read 39 = .ok (.bipush (-30), 2) := by decide +kernel
theorem dX4_read_41 : decode cX4_read 41 = .ok (.ireturn, 1) := by decide +kernel
theorem dX4_read_42 : decode cX4_read 42 = .ok (.iload_n 2, 1) := by decide +kernel
theorem dX4_read_43 : decode cX4_read 43 = .ok (.ifCond .lt 10, 3) := by decide +kernel
theorem dX4_read_46 : decode cX4_read 46 = .ok (.aload_n 0, 1) := by decide +kernel
theorem dX4_read_47 : decode cX4_read 47 = .ok (.getfield 9, 3) := by decide +kernel
theorem dX4_read_50 : decode cX4_read 50 = .ok (.iload_n 1, 1) := by decide +kernel
theorem dX4_read_51 : decode cX4_read 51 = .ok (.iload_n 3, 1) := by decide +kernel
theorem dX4_read_52 : decode cX4_read 52 = .ok (.iastore, 1) := by decide +kernel
theorem dX4_read_53 : decode cX4_read 53 = .ok (.iload_n 2, 1) := by decide +kernel
theorem dX4_read_54 : decode cX4_read 54 = .ok (.ireturn, 1) := by decide +kernel
theorem dX4_clear_0 : decode cX4_clear 0 = .ok (.aload_n 0, 1) := by decide +kernel
theorem dX4_clear_1 : decode cX4_clear 1 = .ok (.getfield 9, 3) := by decide +kernel
theorem dX4_clear_4 : decode cX4_clear 4 = .ok (.iconst (-1), 1) := by decide +kernel
theorem dX4_clear_5 : decode cX4_clear 5 = .ok (.invokestatic 221, 3) := by decide +kernel
theorem dX4_clear_8 : decode cX4_clear 8 = .ok (.aload_n 0, 1) := by decide +kernel
theorem dX4_clear_9 : decode cX4_clear 9 = .ok (.getfield 16, 3) := by decide +kernel
theorem dX4_clear_12 : decode cX4_clear 12 = .ok (.invokevirtual 227, 3) := by decide +kernel
theorem dX4_clear_15 : decode cX4_clear 15 = .ok (.aload_n 0, 1) := by decide +kernel
theorem dX4_clear_16 : decode cX4_clear 16 = .ok (.getfield 30, 3) := by decide +kernel
theorem dX4_clear_19 : decode cX4_clear 19 = .ok (.invokevirtual 187, 3) := by decide +kernel
theorem dX4_clear_22 : decode cX4_clear 22 = .ok (.aload_n 0, 1) := by decide +kernel
theorem dX4_clear_23 : decode cX4_clear 23 = .ok (.getfield 34, 3) := by decide +kernel
theorem dX4_clear_26 : decode cX4_clear 26 = .ok (.invokevirtual 187, 3) := by decide +kernel
theorem dX4_clear_29 : decode cX4_clear 29 = .ok (.aload_n 0, 1) := by decide +kernel
theorem dX4_clear_30 : decode cX4_clear 30 = .ok (.bipush 96, 2) := by decide +kernel
theorem dX4_clear_32 : decode cX4_clear 32 = .ok (.putfield 154, 3) := by decide +kernel
theorem dX4_clear_35 : decode cX4_clear 35 = .ok (.return_, 1) := by decide +kernel
theorem dX4_needSlot_0 : decode cX4_needSlot 0 = .ok (.iload_n 0, 1) := by decide +kernel
theorem dX4_needSlot_1 : decode cX4_needSlot 1 = .ok (.ifCond .lt 9, 3) := by decide +kernel
theorem dX4_needSlot_4 : decode cX4_needSlot 4 = .ok (.iload_n 0, 1) := by decide +kernel
theorem dX4_needSlot_5 : decode cX4_needSlot 5 = .ok (.bipush 10, 2) := by decide +kernel
theorem dX4_needSlot_7 : decode cX4_needSlot 7 = .ok (.if_icmp .lt 13, 3) := by decide +kernel
theorem dX4_needSlot_10 : decode cX4_needSlot 10 = .ok (.new 145, 3) := by decide +kernel
theorem dX4_needSlot_13 : decode cX4_needSlot 13 = .ok (.dup, 1) := by decide +kernel
theorem dX4_needSlot_14 : decode cX4_needSlot 14 = .ok (.ldc 228, 2) := by decide +kernel
theorem dX4_needSlot_16 : decode cX4_needSlot 16 = .ok (.invokespecial 147, 3) := by decide +kernel
theorem dX4_needSlot_19 : decode cX4_needSlot 19 = .ok (.athrow, 1) := by decide +kernel
theorem dX4_needSlot_20 : decode cX4_needSlot 20 = .ok (.return_, 1) := by decide +kernel
theorem dX4_needUnit_0 : decode cX4_needUnit 0 = .ok (.iload_n 0, 1) := by decide +kernel
theorem dX4_needUnit_1 : decode cX4_needUnit 1 = .ok (.ifCond .lt 8, 3) := by decide +kernel
theorem dX4_needUnit_4 : decode cX4_needUnit 4 = .ok (.iload_n 0, 1) := by decide +kernel
theorem dX4_needUnit_5 : decode cX4_needUnit 5 = .ok (.iconst 2, 1) := by decide +kernel
theorem dX4_needUnit_6 : decode cX4_needUnit 6 = .ok (.if_icmp .le 13, 3) := by decide +kernel
theorem dX4_needUnit_9 : decode cX4_needUnit 9 = .ok (.new 88, 3) := by decide +kernel
theorem dX4_needUnit_12 : decode cX4_needUnit 12 = .ok (.dup, 1) := by decide +kernel
theorem dX4_needUnit_13 : decode cX4_needUnit 13 = .ok (.ldc 230, 2) := by decide +kernel
theorem dX4_needUnit_15 : decode cX4_needUnit 15 = .ok (.invokespecial 92, 3) := by decide +kernel
theorem dX4_needUnit_18 : decode cX4_needUnit 18 = .ok (.athrow, 1) := by decide +kernel
theorem dX4_needUnit_19 : decode cX4_needUnit 19 = .ok (.return_, 1) := by decide +kernel
theorem dX4_dateIn_0 : decode cX4_dateIn 0 = .ok (.aload_n 0, 1) := by decide +kernel
theorem dX4_dateIn_1 : decode cX4_dateIn 1 = .ok (.getfield 9, 3) := by decide +kernel
theorem dX4_dateIn_4 : decode cX4_dateIn 4 = .ok (.iload_n 1, 1) := by decide +kernel
theorem dX4_dateIn_5 : decode cX4_dateIn 5 = .ok (.iaload, 1) := by decide +kernel
theorem dX4_dateIn_6 : decode cX4_dateIn 6 = .ok (.istore_n 2, 1) := by decide +kernel
theorem dX4_dateIn_7 : decode cX4_dateIn 7 = .ok (.iload_n 2, 1) := by decide +kernel
theorem dX4_dateIn_8 : decode cX4_dateIn 8 = .ok (.iconst (-1), 1) := by decide +kernel
theorem dX4_dateIn_9 : decode cX4_dateIn 9 = .ok (.if_icmp .ne 13, 3) := by decide +kernel
theorem dX4_dateIn_12 : decode cX4_dateIn 12 = .ok (.new 232, 3) := by decide +kernel
theorem dX4_dateIn_15 : decode cX4_dateIn 15 = .ok (.dup, 1) := by decide +kernel
theorem dX4_dateIn_16 : decode cX4_dateIn 16 = .ok (.ldc 234, 2) := by decide +kernel
theorem dX4_dateIn_18 : decode cX4_dateIn 18 = .ok (.invokespecial 236, 3) := by decide +kernel
theorem dX4_dateIn_21 : decode cX4_dateIn 21 = .ok (.athrow, 1) := by decide +kernel
theorem dX4_dateIn_22 : decode cX4_dateIn 22 = .ok (.iload_n 2, 1) := by decide +kernel
theorem dX4_dateIn_23 : decode cX4_dateIn 23 = .ok (.ireturn, 1) := by decide +kernel
theorem dX4_keep_0 : decode cX4_keep 0 = .ok (.iload_n 2, 1) := by decide +kernel
theorem dX4_keep_1 : decode cX4_keep 1 = .ok (.iconst (-1), 1) := by decide +kernel
theorem dX4_keep_2 : decode cX4_keep 2 = .ok (.if_icmp .ne 13, 3) := by decide +kernel
theorem dX4_keep_5 : decode cX4_keep 5 = .ok (.new 88, 3) := by decide +kernel
theorem dX4_keep_8 : decode cX4_keep 8 = .ok (.dup, 1) := by decide +kernel
theorem dX4_keep_9 : decode cX4_keep 9 = .ok (.ldc 237, 2) := by decide +kernel
theorem dX4_keep_11 : decode cX4_keep 11 = .ok (.invokespecial 92, 3) := by decide +kernel
theorem dX4_keep_14 : decode cX4_keep 14 = .ok (.athrow, 1) := by decide +kernel
theorem dX4_keep_15 : decode cX4_keep 15 = .ok (.aload_n 0, 1) := by decide +kernel
theorem dX4_keep_16 : decode cX4_keep 16 = .ok (.getfield 9, 3) := by decide +kernel
theorem dX4_keep_19 : decode cX4_keep 19 = .ok (.iload_n 1, 1) := by decide +kernel
theorem dX4_keep_20 : decode cX4_keep 20 = .ok (.iload_n 2, 1) := by decide +kernel
theorem dX4_keep_21 : decode cX4_keep 21 = .ok (.iastore, 1) := by decide +kernel
theorem dX4_keep_22 : decode cX4_keep 22 = .ok (.iload_n 2, 1) := by decide +kernel
theorem dX4_keep_23 : decode cX4_keep 23 = .ok (.ireturn, 1) := by decide +kernel
theorem dX4_moved_0 : decode cX4_moved 0 = .ok (.iload_n 2, 1) := by decide +kernel
theorem dX4_moved_1 : decode cX4_moved 1 = .ok (.lookupswitch 40 #[(0, 27), (1, 33)], 27) := by decide +kernel
theorem dX4_moved_28 : decode cX4_moved 28 = .ok (.iload_n 0, 1) := by decide +kernel
theorem dX4_moved_29 : decode cX4_moved 29 = .ok (.iload_n 1, 1) := by decide +kernel
theorem dX4_moved_30 : decode cX4_moved 30 = .ok (.invokestatic 239, 3) := by decide +kernel
theorem dX4_moved_33 : decode cX4_moved 33 = .ok (.ireturn, 1) := by decide +kernel
theorem dX4_moved_34 : decode cX4_moved 34 = .ok (.iload_n 0, 1) := by decide +kernel
theorem dX4_moved_35 : decode cX4_moved 35 = .ok (.iload_n 1, 1) := by decide +kernel
theorem dX4_moved_36 : decode cX4_moved 36 = .ok (.i2l, 1) := by decide +kernel
theorem dX4_moved_37 : decode cX4_moved 37 = .ok (.invokestatic 242, 3) := by decide +kernel
theorem dX4_moved_40 : decode cX4_moved 40 = .ok (.ireturn, 1) := by decide +kernel
theorem dX4_moved_41 : decode cX4_moved 41 = .ok (.iload_n 0, 1) := by decide +kernel
theorem dX4_moved_42 : decode cX4_moved 42 = .ok (.ldc2_w 246, 3) := by decide +kernel
theorem dX4_moved_45 : decode cX4_moved 45 = .ok (.iload_n 1, 1) := by decide +kernel
theorem dX4_moved_46 : decode cX4_moved 46 = .ok (.i2l, 1) := by decide +kernel
theorem dX4_moved_47 : decode cX4_moved 47 = .ok (.lmul, 1) := by decide +kernel
theorem dX4_moved_48 : decode cX4_moved 48 = .ok (.invokestatic 242, 3) := by decide +kernel
theorem dX4_moved_51 : decode cX4_moved 51 = .ok (.ireturn, 1) := by decide +kernel
theorem dX4_wholeUnits_0 : decode cX4_wholeUnits 0 = .ok (.iload_n 2, 1) := by decide +kernel
theorem dX4_wholeUnits_1 : decode cX4_wholeUnits 1 = .ok (.lookupswitch 37 #[(0, 27), (1, 31)], 27) := by decide +kernel
theorem dX4_wholeUnits_28 : decode cX4_wholeUnits 28 = .ok (.iload_n 1, 1) := by decide +kernel
theorem dX4_wholeUnits_29 : decode cX4_wholeUnits 29 = .ok (.iload_n 0, 1) := by decide +kernel
theorem dX4_wholeUnits_30 : decode cX4_wholeUnits 30 = .ok (.isub, 1) := by decide +kernel
theorem dX4_wholeUnits_31 : decode cX4_wholeUnits 31 = .ok (.ireturn, 1) := by decide +kernel
theorem dX4_wholeUnits_32 : decode cX4_wholeUnits 32 = .ok (.iload_n 0, 1) := by decide +kernel
theorem dX4_wholeUnits_33 : decode cX4_wholeUnits 33 = .ok (.iload_n 1, 1) := by decide +kernel
theorem dX4_wholeUnits_34 : decode cX4_wholeUnits 34 = .ok (.invokestatic 248, 3) := by decide +kernel
theorem dX4_wholeUnits_37 : decode cX4_wholeUnits 37 = .ok (.ireturn, 1) := by decide +kernel
theorem dX4_wholeUnits_38 : decode cX4_wholeUnits 38 = .ok (.iload_n 0, 1) := by decide +kernel
theorem dX4_wholeUnits_39 : decode cX4_wholeUnits 39 = .ok (.iload_n 1, 1) := by decide +kernel
theorem dX4_wholeUnits_40 : decode cX4_wholeUnits 40 = .ok (.invokestatic 248, 3) := by decide +kernel
theorem dX4_wholeUnits_43 : decode cX4_wholeUnits 43 = .ok (.bipush 12, 2) := by decide +kernel
theorem dX4_wholeUnits_45 : decode cX4_wholeUnits 45 = .ok (.idiv, 1) := by decide +kernel
theorem dX4_wholeUnits_46 : decode cX4_wholeUnits 46 = .ok (.ireturn, 1) := by decide +kernel
theorem dX4_isWorking_0 : decode cX4_isWorking 0 = .ok (.aload_n 0, 1) := by decide +kernel
theorem dX4_isWorking_1 : decode cX4_isWorking 1 = .ok (.getfield 154, 3) := by decide +kernel
theorem dX4_isWorking_4 : decode cX4_isWorking 4 = .ok (.iload_n 1, 1) := by decide +kernel
theorem dX4_isWorking_5 : decode cX4_isWorking 5 = .ok (.invokestatic 58, 3) := by decide +kernel
theorem dX4_isWorking_8 : decode cX4_isWorking 8 = .ok (.iconst 1, 1) := by decide +kernel
theorem dX4_isWorking_9 : decode cX4_isWorking 9 = .ok (.isub, 1) := by decide +kernel
theorem dX4_isWorking_10 : decode cX4_isWorking 10 = .ok (.ishr, 1) := by decide +kernel
theorem dX4_isWorking_11 : decode cX4_isWorking 11 = .ok (.iconst 1, 1) := by decide +kernel
theorem dX4_isWorking_12 : decode cX4_isWorking 12 = .ok (.iand, 1) := by decide +kernel
theorem dX4_isWorking_13 : decode cX4_isWorking 13 = .ok (.iconst 1, 1) := by decide +kernel
theorem dX4_isWorking_14 : decode cX4_isWorking 14 = .ok (.if_icmp .ne 5, 3) := by decide +kernel
theorem dX4_isWorking_17 : decode cX4_isWorking 17 = .ok (.iconst 0, 1) := by decide +kernel
theorem dX4_isWorking_18 : decode cX4_isWorking 18 = .ok (.ireturn, 1) := by decide +kernel
theorem dX4_isWorking_19 : decode cX4_isWorking 19 = .ok (.aload_n 0, 1) := by decide +kernel
theorem dX4_isWorking_20 : decode cX4_isWorking 20 = .ok (.getfield 23, 3) := by decide +kernel
theorem dX4_isWorking_23 : decode cX4_isWorking 23 = .ok (.iload_n 1, 1) := by decide +kernel
theorem dX4_isWorking_24 : decode cX4_isWorking 24 = .ok (.invokevirtual 251, 3) := by decide +kernel
theorem dX4_isWorking_27 : decode cX4_isWorking 27 = .ok (.ifCond .ne 18, 3) := by decide +kernel
theorem dX4_isWorking_30 : decode cX4_isWorking 30 = .ok (.aload_n 0, 1) := by decide +kernel
theorem dX4_isWorking_31 : decode cX4_isWorking 31 = .ok (.getfield 23, 3) := by decide +kernel
theorem dX4_isWorking_34 : decode cX4_isWorking 34 = .ok (.iload_n 1, 1) := by decide +kernel
theorem dX4_isWorking_35 : decode cX4_isWorking 35 = .ok (.invokestatic 93, 3) := by decide +kernel
theorem dX4_isWorking_38 : decode cX4_isWorking 38 = .ok (.aload_n 0, 1) := by decide +kernel
theorem dX4_isWorking_39 : decode cX4_isWorking 39 = .ok (.getfield 16, 3) := by decide +kernel
theorem dX4_isWorking_42 : decode cX4_isWorking 42 = .ok (.invokevirtual 254, 3) := by decide +kernel
theorem dX4_isWorking_45 : decode cX4_isWorking 45 = .ok (.aload_n 0, 1) := by decide +kernel
theorem dX4_isWorking_46 : decode cX4_isWorking 46 = .ok (.getfield 23, 3) := by decide +kernel
theorem dX4_isWorking_49 : decode cX4_isWorking 49 = .ok (.iload_n 1, 1) := by decide +kernel
theorem dX4_isWorking_50 : decode cX4_isWorking 50 = .ok (.invokevirtual 258, 3) := by decide +kernel
theorem dX4_isWorking_53 : decode cX4_isWorking 53 = .ok (.ifCond .ne 7, 3) := by decide +kernel
theorem dX4_isWorking_56 : decode cX4_isWorking 56 = .ok (.iconst 1, 1) := by decide +kernel
theorem dX4_isWorking_57 : decode cX4_isWorking 57 = .ok (.goto 4, 3) := by decide +kernel
theorem dX4_isWorking_60 : decode cX4_isWorking 60 = .ok (.iconst 0, 1) := by decide +kernel
theorem dX4_isWorking_61 : decode cX4_isWorking 61 = .ok (.ireturn, 1) := by decide +kernel
theorem dX4_putCivil_0 : decode cX4_putCivil 0 = .ok (.aload_n 0, 1) := by decide +kernel
theorem dX4_putCivil_1 : decode cX4_putCivil 1 = .ok (.getfield 30, 3) := by decide +kernel
theorem dX4_putCivil_4 : decode cX4_putCivil 4 = .ok (.iload_n 1, 1) := by decide +kernel
theorem dX4_putCivil_5 : decode cX4_putCivil 5 = .ok (.invokestatic 93, 3) := by decide +kernel
theorem dX4_putCivil_8 : decode cX4_putCivil 8 = .ok (.sipush 1000, 3) := by decide +kernel
theorem dX4_putCivil_11 : decode cX4_putCivil 11 = .ok (.invokevirtual 261, 3) := by decide +kernel
theorem dX4_putCivil_14 : decode cX4_putCivil 14 = .ok (.aload_n 0, 1) := by decide +kernel
theorem dX4_putCivil_15 : decode cX4_putCivil 15 = .ok (.getfield 30, 3) := by decide +kernel
theorem dX4_putCivil_18 : decode cX4_putCivil 18 = .ok (.bipush 45, 2) := by decide +kernel
theorem dX4_putCivil_20 : decode cX4_putCivil 20 = .ok (.invokevirtual 213, 3) := by decide +kernel
theorem dX4_putCivil_23 : decode cX4_putCivil 23 = .ok (.aload_n 0, 1) := by decide +kernel
theorem dX4_putCivil_24 : decode cX4_putCivil 24 = .ok (.getfield 30, 3) := by decide +kernel
theorem dX4_putCivil_27 : decode cX4_putCivil 27 = .ok (.iload_n 1, 1) := by decide +kernel
theorem dX4_putCivil_28 : decode cX4_putCivil 28 = .ok (.invokestatic 96, 3) := by decide +kernel
theorem dX4_putCivil_31 : decode cX4_putCivil 31 = .ok (.bipush 10, 2) := by decide +kernel
theorem dX4_putCivil_33 : decode cX4_putCivil 33 = .ok (.invokevirtual 261, 3) := by decide +kernel
theorem dX4_putCivil_36 : decode cX4_putCivil 36 = .ok (.aload_n 0, 1) := by decide +kernel
theorem dX4_putCivil_37 : decode cX4_putCivil 37 = .ok (.getfield 30, 3) := by decide +kernel
theorem dX4_putCivil_40 : decode cX4_putCivil 40 = .ok (.bipush 45, 2) := by decide +kernel
theorem dX4_putCivil_42 : decode cX4_putCivil 42 = .ok (.invokevirtual 213, 3) := by decide +kernel
theorem dX4_putCivil_45 : decode cX4_putCivil 45 = .ok (.aload_n 0, 1) := by decide +kernel
theorem dX4_putCivil_46 : decode cX4_putCivil 46 = .ok (.getfield 30, 3) := by decide +kernel
theorem dX4_putCivil_49 : decode cX4_putCivil 49 = .ok (.iload_n 1, 1) := by decide +kernel
theorem dX4_putCivil_50 : decode cX4_putCivil 50 = .ok (.invokestatic 99, 3) := by decide +kernel
theorem dX4_putCivil_53 : decode cX4_putCivil 53 = .ok (.bipush 10, 2) := by decide +kernel
theorem dX4_putCivil_55 : decode cX4_putCivil 55 = .ok (.invokevirtual 261, 3) := by decide +kernel
theorem dX4_putCivil_58 : decode cX4_putCivil 58 = .ok (.return_, 1) := by decide +kernel
theorem dX4_putWeek_0 : decode cX4_putWeek 0 = .ok (.aload_n 0, 1) := by decide +kernel
theorem dX4_putWeek_1 : decode cX4_putWeek 1 = .ok (.getfield 30, 3) := by decide +kernel
theorem dX4_putWeek_4 : decode cX4_putWeek 4 = .ok (.iload_n 1, 1) := by decide +kernel
theorem dX4_putWeek_5 : decode cX4_putWeek 5 = .ok (.invokestatic 102, 3) := by decide +kernel
theorem dX4_putWeek_8 : decode cX4_putWeek 8 = .ok (.sipush 1000, 3) := by decide +kernel
theorem dX4_putWeek_11 : decode cX4_putWeek 11 = .ok (.invokevirtual 261, 3) := by decide +kernel
theorem dX4_putWeek_14 : decode cX4_putWeek 14 = .ok (.aload_n 0, 1) := by decide +kernel
theorem dX4_putWeek_15 : decode cX4_putWeek 15 = .ok (.getfield 30, 3) := by decide +kernel
theorem dX4_putWeek_18 : decode cX4_putWeek 18 = .ok (.bipush 45, 2) := by decide +kernel
theorem dX4_putWeek_20 : decode cX4_putWeek 20 = .ok (.invokevirtual 213, 3) := by decide +kernel
theorem dX4_putWeek_23 : decode cX4_putWeek 23 = .ok (.aload_n 0, 1) := by decide +kernel
theorem dX4_putWeek_24 : decode cX4_putWeek 24 = .ok (.getfield 30, 3) := by decide +kernel
theorem dX4_putWeek_27 : decode cX4_putWeek 27 = .ok (.bipush 87, 2) := by decide +kernel
theorem dX4_putWeek_29 : decode cX4_putWeek 29 = .ok (.invokevirtual 213, 3) := by decide +kernel
theorem dX4_putWeek_32 : decode cX4_putWeek 32 = .ok (.aload_n 0, 1) := by decide +kernel
theorem dX4_putWeek_33 : decode cX4_putWeek 33 = .ok (.getfield 30, 3) := by decide +kernel
theorem dX4_putWeek_36 : decode cX4_putWeek 36 = .ok (.iload_n 1, 1) := by decide +kernel
theorem dX4_putWeek_37 : decode cX4_putWeek 37 = .ok (.invokestatic 105, 3) := by decide +kernel
theorem dX4_putWeek_40 : decode cX4_putWeek 40 = .ok (.bipush 10, 2) := by decide +kernel
theorem dX4_putWeek_42 : decode cX4_putWeek 42 = .ok (.invokevirtual 261, 3) := by decide +kernel
theorem dX4_putWeek_45 : decode cX4_putWeek 45 = .ok (.aload_n 0, 1) := by decide +kernel
theorem dX4_putWeek_46 : decode cX4_putWeek 46 = .ok (.getfield 30, 3) := by decide +kernel
theorem dX4_putWeek_49 : decode cX4_putWeek 49 = .ok (.bipush 45, 2) := by decide +kernel
theorem dX4_putWeek_51 : decode cX4_putWeek 51 = .ok (.invokevirtual 213, 3) := by decide +kernel
theorem dX4_putWeek_54 : decode cX4_putWeek 54 = .ok (.aload_n 0, 1) := by decide +kernel
theorem dX4_putWeek_55 : decode cX4_putWeek 55 = .ok (.getfield 30, 3) := by decide +kernel
theorem dX4_putWeek_58 : decode cX4_putWeek 58 = .ok (.iload_n 1, 1) := by decide +kernel
theorem dX4_putWeek_59 : decode cX4_putWeek 59 = .ok (.invokestatic 58, 3) := by decide +kernel
theorem dX4_putWeek_62 : decode cX4_putWeek 62 = .ok (.iconst 1, 1) := by decide +kernel
theorem dX4_putWeek_63 : decode cX4_putWeek 63 = .ok (.invokevirtual 261, 3) := by decide +kernel
theorem dX4_putWeek_66 : decode cX4_putWeek 66 = .ok (.return_, 1) := by decide +kernel
theorem dX4_putYearDay_0 : decode cX4_putYearDay 0 = .ok (.aload_n 0, 1) := by decide +kernel
theorem dX4_putYearDay_1 : decode cX4_putYearDay 1 = .ok (.getfield 30, 3) := by decide +kernel
theorem dX4_putYearDay_4 : decode cX4_putYearDay 4 = .ok (.iload_n 1, 1) := by decide +kernel
theorem dX4_putYearDay_5 : decode cX4_putYearDay 5 = .ok (.invokestatic 93, 3) := by decide +kernel
theorem dX4_putYearDay_8 : decode cX4_putYearDay 8 = .ok (.sipush 1000, 3) := by decide +kernel
theorem dX4_putYearDay_11 : decode cX4_putYearDay 11 = .ok (.invokevirtual 261, 3) := by decide +kernel
theorem dX4_putYearDay_14 : decode cX4_putYearDay 14 = .ok (.aload_n 0, 1) := by decide +kernel
theorem dX4_putYearDay_15 : decode cX4_putYearDay 15 = .ok (.getfield 30, 3) := by decide +kernel
theorem dX4_putYearDay_18 : decode cX4_putYearDay 18 = .ok (.bipush 45, 2) := by decide +kernel
theorem dX4_putYearDay_20 : decode cX4_putYearDay 20 = .ok (.invokevirtual 213, 3) := by decide +kernel
theorem dX4_putYearDay_23 : decode cX4_putYearDay 23 = .ok (.aload_n 0, 1) := by decide +kernel
theorem dX4_putYearDay_24 : decode cX4_putYearDay 24 = .ok (.getfield 30, 3) := by decide +kernel
theorem dX4_putYearDay_27 : decode cX4_putYearDay 27 = .ok (.iload_n 1, 1) := by decide +kernel
theorem dX4_putYearDay_28 : decode cX4_putYearDay 28 = .ok (.invokestatic 108, 3) := by decide +kernel
theorem dX4_putYearDay_31 : decode cX4_putYearDay 31 = .ok (.bipush 100, 2) := by decide +kernel
theorem dX4_putYearDay_33 : decode cX4_putYearDay 33 = .ok (.invokevirtual 261, 3) := by decide +kernel
theorem dX4_putYearDay_36 : decode cX4_putYearDay 36 = .ok (.return_, 1) := by decide +kernel
theorem dX4_typedText_0 : decode cX4_typedText 0 = .ok (.iconst 0, 1) := by decide +kernel
theorem dX4_typedText_1 : decode cX4_typedText 1 = .ok (.istore_n 1, 1) := by decide +kernel
theorem dX4_typedText_2 : decode cX4_typedText 2 = .ok (.iconst 0, 1) := by decide +kernel
theorem dX4_typedText_3 : decode cX4_typedText 3 = .ok (.istore_n 2, 1) := by decide +kernel
theorem dX4_typedText_4 : decode cX4_typedText 4 = .ok (.iload_n 2, 1) := by decide +kernel
theorem dX4_typedText_5 : decode cX4_typedText 5 = .ok (.iconst 2, 1) := by decide +kernel
theorem dX4_typedText_6 : decode cX4_typedText 6 = .ok (.if_icmp .gt 54, 3) := by decide +kernel
theorem dX4_typedText_9 : decode cX4_typedText 9 = .ok (.iload_n 2, 1) := by decide +kernel
theorem dX4_typedText_10 : decode cX4_typedText 10 = .ok (.invokestatic 265, 3) := by decide +kernel
theorem dX4_typedText_13 : decode cX4_typedText 13 = .ok (.astore_n 3, 1) := by decide +kernel
theorem dX4_typedText_14 : decode cX4_typedText 14 = .ok (.aload_n 0, 1) := by decide +kernel
theorem dX4_typedText_15 : decode cX4_typedText 15 = .ok (.getfield 34, 3) := by decide +kernel
theorem dX4_typedText_18 : decode cX4_typedText 18 = .ok (.aload_n 3, 1) := by decide +kernel
theorem dX4_typedText_19 : decode cX4_typedText 19 = .ok (.invokevirtual 269, 3) := by decide +kernel
theorem dX4_typedText_22 : decode cX4_typedText 22 = .ok (.istore 4, 2) := by decide +kernel
theorem dX4_typedText_24 : decode cX4_typedText 24 = .ok (.iload 4, 2) := by decide +kernel
theorem dX4_typedText_26 : decode cX4_typedText 26 = .ok (.aload_n 3, 1) := by decide +kernel
theorem dX4_typedText_27 : decode cX4_typedText 27 = .ok (.invokevirtual 273, 3) := by decide +kernel
theorem dX4_typedText_30 : decode cX4_typedText 30 = .ok (.if_icmp .ne 17, 3) := by decide +kernel
theorem dX4_typedText_33 : decode cX4_typedText 33 = .ok (.iload 4, 2) := by decide +kernel
theorem dX4_typedText_35 : decode cX4_typedText 35 = .ok (.aload_n 0, 1) := by decide +kernel
theorem dX4_typedText_36 : decode cX4_typedText 36 = .ok (.getfield 34, 3) := by decide +kernel
theorem dX4_typedText_39 : decode cX4_typedText 39 = .ok (.invokevirtual 199, 3) := by decide +kernel
theorem dX4_typedText_42 : decode cX4_typedText 42 = .ok (.if_icmp .ne 5, 3) := by decide +kernel
theorem dX4_typedText_45 : decode cX4_typedText 45 = .ok (.iload_n 2, 1) := by decide +kernel
theorem dX4_typedText_46 : decode cX4_typedText 46 = .ok (.ireturn, 1) := by decide +kernel
theorem dX4_typedText_47 : decode cX4_typedText 47 = .ok (.iload_n 1, 1) := by decide +kernel
theorem dX4_typedText_48 : decode cX4_typedText 48 = .ok (.iload 4, 2) := by decide +kernel
theorem dX4_typedText_50 : decode cX4_typedText 50 = .ok (.invokestatic 171, 3) := by decide +kernel
theorem dX4_typedText_53 : decode cX4_typedText 53 = .ok (.istore_n 1, 1) := by decide +kernel
theorem dX4_typedText_54 : decode cX4_typedText 54 = .ok (.iinc 2 1, 3) := by decide +kernel
theorem dX4_typedText_57 : decode cX4_typedText 57 = .ok (.goto (-53), 3) := by decide +kernel
theorem dX4_typedText_60 : decode cX4_typedText 60 = .ok (.iconst (-1), 1) := by decide +kernel
theorem dX4_typedText_61 : decode cX4_typedText 61 = .ok (.iload_n 1, 1) := by decide +kernel
theorem dX4_typedText_62 : decode cX4_typedText 62 = .ok (.isub, 1) := by decide +kernel
theorem dX4_typedText_63 : decode cX4_typedText 63 = .ok (.ireturn, 1) := by decide +kernel
theorem dX4_patternOf_0 : decode cX4_patternOf 0 = .ok (.iload_n 0, 1) := by decide +kernel
theorem dX4_patternOf_1 : decode cX4_patternOf 1 = .ok (.lookupswitch 35 #[(0, 27), (1, 31)], 27) := by decide +kernel
theorem dX4_patternOf_28 : decode cX4_patternOf 28 = .ok (.ldc_w 278, 3) := by decide +kernel
theorem dX4_patternOf_31 : decode cX4_patternOf 31 = .ok (.areturn, 1) := by decide +kernel
theorem dX4_patternOf_32 : decode cX4_patternOf 32 = .ok (.ldc_w 280, 3) := by decide +kernel
theorem dX4_patternOf_35 : decode cX4_patternOf 35 = .ok (.areturn, 1) := by decide +kernel
theorem dX4_patternOf_36 : decode cX4_patternOf 36 = .ok (.ldc_w 282, 3) := by decide +kernel
theorem dX4_patternOf_39 : decode cX4_patternOf 39 = .ok (.areturn, 1) := by decide +kernel
theorem dX4_typedNumber_0 : decode cX4_typedNumber 0 = .ok (.aload_n 0, 1) := by decide +kernel
theorem dX4_typedNumber_1 : decode cX4_typedNumber 1 = .ok (.getfield 34, 3) := by decide +kernel
theorem dX4_typedNumber_4 : decode cX4_typedNumber 4 = .ok (.iconst 0, 1) := by decide +kernel
theorem dX4_typedNumber_5 : decode cX4_typedNumber 5 = .ok (.iconst 4, 1) := by decide +kernel
theorem dX4_typedNumber_6 : decode cX4_typedNumber 6 = .ok (.invokevirtual 284, 3) := by decide +kernel
theorem dX4_typedNumber_9 : decode cX4_typedNumber 9 = .ok (.istore_n 2, 1) := by decide +kernel
theorem dX4_typedNumber_10 : decode cX4_typedNumber 10 = .ok (.iload_n 1, 1) := by decide +kernel
theorem dX4_typedNumber_11 : decode cX4_typedNumber 11 = .ok (.lookupswitch 74 #[(0, 25), (1, 49)], 25) := by decide +kernel
theorem dX4_typedNumber_36 : decode cX4_typedNumber 36 = .ok (.iload_n 2, 1) := by decide +kernel
theorem dX4_typedNumber_37 : decode cX4_typedNumber 37 = .ok (.aload_n 0, 1) := by decide +kernel
theorem dX4_typedNumber_38 : decode cX4_typedNumber 38 = .ok (.getfield 34, 3) := by decide +kernel
theorem dX4_typedNumber_41 : decode cX4_typedNumber 41 = .ok (.iconst 5, 1) := by decide +kernel
theorem dX4_typedNumber_42 : decode cX4_typedNumber 42 = .ok (.iconst 2, 1) := by decide +kernel
theorem dX4_typedNumber_43 : decode cX4_typedNumber 43 = .ok (.invokevirtual 284, 3) := by decide +kernel
theorem dX4_typedNumber_46 : decode cX4_typedNumber 46 = .ok (.aload_n 0, 1) := by decide +kernel
theorem dX4_typedNumber_47 : decode cX4_typedNumber 47 = .ok (.getfield 34, 3) := by decide +kernel
theorem dX4_typedNumber_50 : decode cX4_typedNumber 50 = .ok (.bipush 8, 2) := by decide +kernel
theorem dX4_typedNumber_52 : decode cX4_typedNumber 52 = .ok (.iconst 2, 1) := by decide +kernel
theorem dX4_typedNumber_53 : decode cX4_typedNumber 53 = .ok (.invokevirtual 284, 3) := by decide +kernel
theorem dX4_typedNumber_56 : decode cX4_typedNumber 56 = .ok (.invokestatic 44, 3) := by decide +kernel
theorem dX4_typedNumber_59 : decode cX4_typedNumber 59 = .ok (.ireturn, 1) := by decide +kernel
theorem dX4_typedNumber_60 : decode cX4_typedNumber 60 = .ok (.iload_n 2, 1) := by decide +kernel
theorem dX4_typedNumber_61 : decode cX4_typedNumber 61 = .ok (.aload_n 0, 1) := by decide +kernel
theorem dX4_typedNumber_62 : decode cX4_typedNumber 62 = .ok (.getfield 34, 3) := by decide +kernel
theorem dX4_typedNumber_65 : decode cX4_typedNumber 65 = .ok (.bipush 6, 2) := by decide +kernel
theorem dX4_typedNumber_67 : decode cX4_typedNumber 67 = .ok (.iconst 2, 1) := by decide +kernel
theorem dX4_typedNumber_68 : decode cX4_typedNumber 68 = .ok (.invokevirtual 284, 3) := by decide +kernel
theorem dX4_typedNumber_71 : decode cX4_typedNumber 71 = .ok (.aload_n 0, 1) := by decide +kernel
theorem dX4_typedNumber_72 : decode cX4_typedNumber 72 = .ok (.getfield 34, 3) := by decide +kernel
theorem dX4_typedNumber_75 : decode cX4_typedNumber 75 = .ok (.bipush 9, 2) := by decide +kernel
theorem dX4_typedNumber_77 : decode cX4_typedNumber 77 = .ok (.iconst 1, 1) := by decide +kernel
theorem dX4_typedNumber_78 : decode cX4_typedNumber 78 = .ok (.invokevirtual 284, 3) := by decide +kernel
theorem dX4_typedNumber_81 : decode cX4_typedNumber 81 = .ok (.invokestatic 62, 3) := by decide +kernel
theorem dX4_typedNumber_84 : decode cX4_typedNumber 84 = .ok (.ireturn, 1) := by decide +kernel
theorem dX4_typedNumber_85 : decode cX4_typedNumber 85 = .ok (.iload_n 2, 1) := by decide +kernel
theorem dX4_typedNumber_86 : decode cX4_typedNumber 86 = .ok (.aload_n 0, 1) := by decide +kernel
theorem dX4_typedNumber_87 : decode cX4_typedNumber 87 = .ok (.getfield 34, 3) := by decide +kernel
theorem dX4_typedNumber_90 : decode cX4_typedNumber 90 = .ok (.iconst 5, 1) := by decide +kernel
theorem dX4_typedNumber_91 : decode cX4_typedNumber 91 = .ok (.iconst 3, 1) := by decide +kernel
theorem dX4_typedNumber_92 : decode cX4_typedNumber 92 = .ok (.invokevirtual 284, 3) := by decide +kernel
theorem dX4_typedNumber_95 : decode cX4_typedNumber 95 = .ok (.invokestatic 287, 3) := by decide +kernel
theorem dX4_typedNumber_98 : decode cX4_typedNumber 98 = .ok (.ireturn, 1) := by decide +kernel
theorem dX5_init_0 : decode cX5_init 0 = .ok (.aload_n 0, 1) := by decide +kernel
theorem dX5_init_1 : decode cX5_init 1 = .ok (.invokespecial 1, 3) := by decide +kernel
theorem dX5_init_4 : decode cX5_init 4 = .ok (.aload_n 0, 1) := by decide +kernel
theorem dX5_init_5 : decode cX5_init 5 = .ok (.bipush 10, 2) := by decide +kernel
theorem dX5_init_7 : decode cX5_init 7 = .ok (.newarray .int, 2) := by decide +kernel
theorem dX5_init_9 : decode cX5_init 9 = .ok (.putfield 7, 3) := by decide +kernel
theorem dX5_init_12 : decode cX5_init 12 = .ok (.aload_n 0, 1) := by decide +kernel
theorem dX5_init_13 : decode cX5_init 13 = .ok (.bipush 12, 2) := by decide +kernel
theorem dX5_init_15 : decode cX5_init 15 = .ok (.newarray .int, 2) := by decide +kernel
theorem dX5_init_17 : decode cX5_init 17 = .ok (.putfield 13, 3) := by decide +kernel
theorem dX5_init_20 : decode cX5_init 20 = .ok (.aload_n 0, 1) := by decide +kernel
theorem dX5_init_21 : decode cX5_init 21 = .ok (.bipush 12, 2) := by decide +kernel
theorem dX5_init_23 : decode cX5_init 23 = .ok (.newarray .int, 2) := by decide +kernel
theorem dX5_init_25 : decode cX5_init 25 = .ok (.putfield 16, 3) := by decide +kernel
theorem dX5_init_28 : decode cX5_init 28 = .ok (.aload_n 0, 1) := by decide +kernel
theorem dX5_init_29 : decode cX5_init 29 = .ok (.bipush 12, 2) := by decide +kernel
theorem dX5_init_31 : decode cX5_init 31 = .ok (.newarray .int, 2) := by decide +kernel
theorem dX5_init_33 : decode cX5_init 33 = .ok (.putfield 19, 3) := by decide +kernel
theorem dX5_init_36 : decode cX5_init 36 = .ok (.aload_n 0, 1) := by decide +kernel
theorem dX5_init_37 : decode cX5_init 37 = .ok (.bipush 12, 2) := by decide +kernel
theorem dX5_init_39 : decode cX5_init 39 = .ok (.newarray .int, 2) := by decide +kernel
theorem dX5_init_41 : decode cX5_init 41 = .ok (.putfield 22, 3) := by decide +kernel
theorem dX5_init_44 : decode cX5_init 44 = .ok (.aload_n 0, 1) := by decide +kernel
theorem dX5_init_45 : decode cX5_init 45 = .ok (.bipush 96, 2) := by decide +kernel
theorem dX5_init_47 : decode cX5_init 47 = .ok (.putfield 25, 3) := by decide +kernel
theorem dX5_init_50 : decode cX5_init 50 = .ok (.aload_n 0, 1) := by decide +kernel
theorem dX5_init_51 : decode cX5_init 51 = .ok (.bipush 12, 2) := by decide +kernel
theorem dX5_init_53 : decode cX5_init 53 = .ok (.newarray .int, 2) := by decide +kernel
theorem dX5_init_55 : decode cX5_init 55 = .ok (.putfield 29, 3) := by decide +kernel
theorem dX5_init_58 : decode cX5_init 58 = .ok (.aload_n 0, 1) := by decide +kernel
theorem dX5_init_59 : decode cX5_init 59 = .ok (.bipush 20, 2) := by decide +kernel
theorem dX5_init_61 : decode cX5_init 61 = .ok (.newarray .int, 2) := by decide +kernel
theorem dX5_init_63 : decode cX5_init 63 = .ok (.putfield 32, 3) := by decide +kernel
theorem dX5_init_66 : decode cX5_init 66 = .ok (.iconst 0, 1) := by decide +kernel
theorem dX5_init_67 : decode cX5_init 67 = .ok (.istore_n 1, 1) := by decide +kernel
theorem dX5_init_68 : decode cX5_init 68 = .ok (.iload_n 1, 1) := by decide +kernel
theorem dX5_init_69 : decode cX5_init 69 = .ok (.bipush 10, 2) := by decide +kernel
theorem dX5_init_71 : decode cX5_init 71 = .ok (.if_icmp .ge 16, 3) := by decide +kernel
theorem dX5_init_74 : decode cX5_init 74 = .ok (.aload_n 0, 1) := by decide +kernel
theorem dX5_init_75 : decode cX5_init 75 = .ok (.getfield 7, 3) := by decide +kernel
theorem dX5_init_78 : decode cX5_init 78 = .ok (.iload_n 1, 1) := by decide +kernel
theorem dX5_init_79 : decode cX5_init 79 = .ok (.iconst (-1), 1) := by decide +kernel
theorem dX5_init_80 : decode cX5_init 80 = .ok (.iastore, 1) := by decide +kernel
theorem dX5_init_81 : decode cX5_init 81 = .ok (.iinc 1 1, 3) := by decide +kernel
theorem dX5_init_84 : decode cX5_init 84 = .ok (.goto (-16), 3) := by decide +kernel
theorem dX5_init_87 : decode cX5_init 87 = .ok (.return_, 1) := by decide +kernel
theorem dX5_thrown_0 : decode cX5_thrown 0 = .ok (.aload_n 0, 1) := by decide +kernel
theorem dX5_thrown_1 : decode cX5_thrown 1 = .ok (.getfield 35, 3) := by decide +kernel
theorem dX5_thrown_4 : decode cX5_thrown 4 = .ok (.ireturn, 1) := by decide +kernel
theorem dX5_in_0 : decode cX5_in 0 = .ok (.iload_n 0, 1) := by decide +kernel
theorem dX5_in_1 : decode cX5_in 1 = .ok (.iload_n 1, 1) := by decide +kernel
theorem dX5_in_2 : decode cX5_in 2 = .ok (.if_icmp .lt 12, 3) := by decide +kernel
theorem dX5_in_5 : decode cX5_in 5 = .ok (.iload_n 0, 1) := by decide +kernel
theorem dX5_in_6 : decode cX5_in 6 = .ok (.iload_n 2, 1) := by decide +kernel
theorem dX5_in_7 : decode cX5_in 7 = .ok (.if_icmp .gt 7, 3) := by decide +kernel
theorem dX5_in_10 : decode cX5_in 10 = .ok (.iconst 1, 1) := by decide +kernel
theorem dX5_in_11 : decode cX5_in 11 = .ok (.goto 4, 3) := by decide +kernel
theorem dX5_in_14 : decode cX5_in 14 = .ok (.iconst 0, 1) := by decide +kernel
theorem dX5_in_15 : decode cX5_in 15 = .ok (.ireturn, 1) := by decide +kernel
theorem dX5_isSlot_0 : decode cX5_isSlot 0 = .ok (.iload_n 0, 1) := by decide +kernel
theorem dX5_isSlot_1 : decode cX5_isSlot 1 = .ok (.iconst 0, 1) := by decide +kernel
theorem dX5_isSlot_2 : decode cX5_isSlot 2 = .ok (.bipush 9, 2) := by decide +kernel
theorem dX5_isSlot_4 : decode cX5_isSlot 4 = .ok (.invokestatic 38, 3) := by decide +kernel
theorem dX5_isSlot_7 : decode cX5_isSlot 7 = .ok (.ireturn, 1) := by decide +kernel
theorem dX5_isLeap_0 : decode cX5_isLeap 0 = .ok (.iload_n 0, 1) := by decide +kernel
theorem dX5_isLeap_1 : decode cX5_isLeap 1 = .ok (.iconst 4, 1) := by decide +kernel
theorem dX5_isLeap_2 : decode cX5_isLeap 2 = .ok (.irem, 1) := by decide +kernel
theorem dX5_isLeap_3 : decode cX5_isLeap 3 = .ok (.ifCond .ne 22, 3) := by decide +kernel
theorem dX5_isLeap_6 : decode cX5_isLeap 6 = .ok (.iload_n 0, 1) := by decide +kernel
theorem dX5_isLeap_7 : decode cX5_isLeap 7 = .ok (.bipush 100, 2) := by decide +kernel
theorem dX5_isLeap_9 : decode cX5_isLeap 9 = .ok (.irem, 1) := by decide +kernel
theorem dX5_isLeap_10 : decode cX5_isLeap 10 = .ok (.ifCond .ne 11, 3) := by decide +kernel
theorem dX5_isLeap_13 : decode cX5_isLeap 13 = .ok (.iload_n 0, 1) := by decide +kernel
theorem dX5_isLeap_14 : decode cX5_isLeap 14 = .ok (.sipush 400, 3) := by decide +kernel
theorem dX5_isLeap_17 : decode cX5_isLeap 17 = .ok (.irem, 1) := by decide +kernel
theorem dX5_isLeap_18 : decode cX5_isLeap 18 = .ok (.ifCond .ne 7, 3) := by decide +kernel
theorem dX5_isLeap_21 : decode cX5_isLeap 21 = .ok (.iconst 1, 1) := by decide +kernel
theorem dX5_isLeap_22 : decode cX5_isLeap 22 = .ok (.goto 4, 3) := by decide +kernel
theorem dX5_isLeap_25 : decode cX5_isLeap 25 = .ok (.iconst 0, 1) := by decide +kernel
theorem dX5_isLeap_26 : decode cX5_isLeap 26 = .ok (.ireturn, 1) := by decide +kernel
theorem dX5_lengthOf_0 : decode cX5_lengthOf 0 = .ok (.iload_n 1, 1) := by decide +kernel
theorem dX5_lengthOf_1 : decode cX5_lengthOf 1 = .ok (.iconst 2, 1) := by decide +kernel
theorem dX5_lengthOf_2 : decode cX5_lengthOf 2 = .ok (.if_icmp .ne 20, 3) := by decide +kernel
theorem dX5_lengthOf_5 : decode cX5_lengthOf 5 = .ok (.iload_n 0, 1) := by decide +kernel
theorem dX5_lengthOf_6 : decode cX5_lengthOf 6 = .ok (.invokestatic 42, 3) := by decide +kernel
theorem dX5_lengthOf_9 : decode cX5_lengthOf 9 = .ok (.ifCond .eq 8, 3) := by decide +kernel
theorem dX5_lengthOf_12 : decode cX5_lengthOf 12 = .ok (.bipush 29, 2) := by decide +kernel
theorem dX5_lengthOf_14 : decode cX5_lengthOf 14 = .ok (.goto 38, 3) := by decide +kernel
theorem dX5_lengthOf_17 : decode cX5_lengthOf 17 = .ok (.bipush 28, 2) := by decide +kernel
theorem dX5_lengthOf_19 : decode cX5_lengthOf 19 = .ok (.goto 33, 3) := by decide +kernel
theorem dX5_lengthOf_22 : decode cX5_lengthOf 22 = .ok (.iload_n 1, 1) := by decide +kernel
theorem dX5_lengthOf_23 : decode cX5_lengthOf 23 = .ok (.iconst 4, 1) := by decide +kernel
theorem dX5_lengthOf_24 : decode cX5_lengthOf 24 = .ok (.if_icmp .eq 21, 3) := by decide +kernel
theorem dX5_lengthOf_27 : decode cX5_lengthOf 27 = .ok (.iload_n 1, 1) := by decide +kernel
theorem dX5_lengthOf_28 : decode cX5_lengthOf 28 = .ok (.bipush 6, 2) := by decide +kernel
theorem dX5_lengthOf_30 : decode cX5_lengthOf 30 = .ok (.if_icmp .eq 15, 3) := by decide +kernel
theorem dX5_lengthOf_33 : decode cX5_lengthOf 33 = .ok (.iload_n 1, 1) := by decide +kernel
theorem dX5_lengthOf_34 : decode cX5_lengthOf 34 = .ok (.bipush 9, 2) := by decide +kernel
theorem dX5_lengthOf_36 : decode cX5_lengthOf 36 = .ok (.if_icmp .eq 9, 3) := by decide +kernel
theorem dX5_lengthOf_39 : decode cX5_lengthOf 39 = .ok (.iload_n 1, 1) := by decide +kernel
theorem dX5_lengthOf_40 : decode cX5_lengthOf 40 = .ok (.bipush 11, 2) := by decide +kernel
theorem dX5_lengthOf_42 : decode cX5_lengthOf 42 = .ok (.if_icmp .ne 8, 3) := by decide +kernel
theorem dX5_lengthOf_45 : decode cX5_lengthOf 45 = .ok (.bipush 30, 2) := by decide +kernel
theorem dX5_lengthOf_47 : decode cX5_lengthOf 47 = .ok (.goto 5, 3) := by decide +kernel
theorem dX5_lengthOf_50 : decode cX5_lengthOf 50 = .ok (.bipush 31, 2) := by decide +kernel
theorem dX5_lengthOf_52 : decode cX5_lengthOf 52 = .ok (.ireturn, 1) := by decide +kernel
theorem dX5_yearLength_0 : decode cX5_yearLength 0 = .ok (.iload_n 0, 1) := by decide +kernel
theorem dX5_yearLength_1 : decode cX5_yearLength 1 = .ok (.invokestatic 42, 3) := by decide +kernel
theorem dX5_yearLength_4 : decode cX5_yearLength 4 = .ok (.ifCond .eq 9, 3) := by decide +kernel
theorem dX5_yearLength_7 : decode cX5_yearLength 7 = .ok (.sipush 366, 3) := by decide +kernel
theorem dX5_yearLength_10 : decode cX5_yearLength 10 = .ok (.goto 6, 3) := by decide +kernel
theorem dX5_yearLength_13 : decode cX5_yearLength 13 = .ok (.sipush 365, 3) := by decide +kernel
theorem dX5_yearLength_16 : decode cX5_yearLength 16 = .ok (.ireturn, 1) := by decide +kernel
theorem dX5_beginOf_0 : decode cX5_beginOf 0 = .ok (.iload_n 0, 1) := by decide +kernel
theorem dX5_beginOf_1 : decode cX5_beginOf 1 = .ok (.iconst 1, 1) := by decide +kernel
theorem dX5_beginOf_2 : decode cX5_beginOf 2 = .ok (.isub, 1) := by decide +kernel
theorem dX5_beginOf_3 : decode cX5_beginOf 3 = .ok (.istore_n 1, 1) := by decide +kernel
theorem dX5_beginOf_4 : decode cX5_beginOf 4 = .ok (.sipush 365, 3) := by decide +kernel
theorem dX5_beginOf_7 : decode cX5_beginOf 7 = .ok (.iload_n 1, 1) := by decide +kernel
theorem dX5_beginOf_8 : decode cX5_beginOf 8 = .ok (.imul, 1) := by decide +kernel
theorem dX5_beginOf_9 : decode cX5_beginOf 9 = .ok (.iload_n 1, 1) := by decide +kernel
theorem dX5_beginOf_10 : decode cX5_beginOf 10 = .ok (.iconst 4, 1) := by decide +kernel
theorem dX5_beginOf_11 : decode cX5_beginOf 11 = .ok (.idiv, 1) := by decide +kernel
theorem dX5_beginOf_12 : decode cX5_beginOf 12 = .ok (.iadd, 1) := by decide +kernel
theorem dX5_beginOf_13 : decode cX5_beginOf 13 = .ok (.iload_n 1, 1) := by decide +kernel
theorem dX5_beginOf_14 : decode cX5_beginOf 14 = .ok (.bipush 100, 2) := by decide +kernel
theorem dX5_beginOf_16 : decode cX5_beginOf 16 = .ok (.idiv, 1) := by decide +kernel
theorem dX5_beginOf_17 : decode cX5_beginOf 17 = .ok (.isub, 1) := by decide +kernel
theorem dX5_beginOf_18 : decode cX5_beginOf 18 = .ok (.iload_n 1, 1) := by decide +kernel
theorem dX5_beginOf_19 : decode cX5_beginOf 19 = .ok (.sipush 400, 3) := by decide +kernel
theorem dX5_beginOf_22 : decode cX5_beginOf 22 = .ok (.idiv, 1) := by decide +kernel
theorem dX5_beginOf_23 : decode cX5_beginOf 23 = .ok (.iadd, 1) := by decide +kernel
theorem dX5_beginOf_24 : decode cX5_beginOf 24 = .ok (.ireturn, 1) := by decide +kernel
theorem dX5_numberOf_0 : decode cX5_numberOf 0 = .ok (.iload_n 0, 1) := by decide +kernel
theorem dX5_numberOf_1 : decode cX5_numberOf 1 = .ok (.invokestatic 46, 3) := by decide +kernel
theorem dX5_numberOf_4 : decode cX5_numberOf 4 = .ok (.iload_n 2, 1) := by decide +kernel
theorem dX5_numberOf_5 : decode cX5_numberOf 5 = .ok (.iadd, 1) := by decide +kernel
theorem dX5_numberOf_6 : decode cX5_numberOf 6 = .ok (.iconst 1, 1) := by decide +kernel
theorem dX5_numberOf_7 : decode cX5_numberOf 7 = .ok (.isub, 1) := by decide +kernel
theorem dX5_numberOf_8 : decode cX5_numberOf 8 = .ok (.istore_n 3, 1) := by decide +kernel
theorem dX5_numberOf_9 : decode cX5_numberOf 9 = .ok (.iconst 1, 1) := by decide +kernel
theorem dX5_numberOf_10 : decode cX5_numberOf 10 = .ok (.istore 4, 2) := by decide +kernel
theorem dX5_numberOf_12 : decode cX5_numberOf 12 = .ok (.iload 4, 2) := by decide +kernel
theorem dX5_numberOf_14 : decode cX5_numberOf 14 = .ok (.iload_n 1, 1) := by decide +kernel
theorem dX5_numberOf_15 : decode cX5_numberOf 15 = .ok (.if_icmp .ge 18, 3) := by decide +kernel
theorem dX5_numberOf_18 : decode cX5_numberOf 18 = .ok (.iload_n 3, 1) := by decide +kernel
theorem dX5_numberOf_19 : decode cX5_numberOf 19 = .ok (.iload_n 0, 1) := by decide +kernel
theorem dX5_numberOf_20 : decode cX5_numberOf 20 = .ok (.iload 4, 2) := by decide +kernel
theorem dX5_numberOf_22 : decode cX5_numberOf 22 = .ok (.invokestatic 50, 3) := by decide +kernel
theorem dX5_numberOf_25 : decode cX5_numberOf 25 = .ok (.iadd, 1) := by decide +kernel
theorem dX5_numberOf_26 : decode cX5_numberOf 26 = .ok (.istore_n 3, 1) := by decide +kernel
theorem dX5_numberOf_27 : decode cX5_numberOf 27 = .ok (.iinc 4 1, 3) := by decide +kernel
theorem dX5_numberOf_30 : decode cX5_numberOf 30 = .ok (.goto (-18), 3) := by decide +kernel
theorem dX5_numberOf_33 : decode cX5_numberOf 33 = .ok (.iload_n 3, 1) := by decide +kernel
theorem dX5_numberOf_34 : decode cX5_numberOf 34 = .ok (.ireturn, 1) := by decide +kernel
theorem dX5_yearOf_0 : decode cX5_yearOf 0 = .ok (.iload_n 0, 1) := by decide +kernel
theorem dX5_yearOf_1 : decode cX5_yearOf 1 = .ok (.sipush 366, 3) := by decide +kernel
theorem dX5_yearOf_4 : decode cX5_yearOf 4 = .ok (.idiv, 1) := by decide +kernel
theorem dX5_yearOf_5 : decode cX5_yearOf 5 = .ok (.iconst 1, 1) := by decide +kernel
theorem dX5_yearOf_6 : decode cX5_yearOf 6 = .ok (.iadd, 1) := by decide +kernel
theorem dX5_yearOf_7 : decode cX5_yearOf 7 = .ok (.istore_n 1, 1) := by decide +kernel
theorem dX5_yearOf_8 : decode cX5_yearOf 8 = .ok (.iload_n 1, 1) := by decide +kernel
theorem dX5_yearOf_9 : decode cX5_yearOf 9 = .ok (.iconst 1, 1) := by decide +kernel
theorem dX5_yearOf_10 : decode cX5_yearOf 10 = .ok (.iadd, 1) := by decide +kernel
theorem dX5_yearOf_11 : decode cX5_yearOf 11 = .ok (.invokestatic 46, 3) := by decide +kernel
theorem dX5_yearOf_14 : decode cX5_yearOf 14 = .ok (.iload_n 0, 1) := by decide +kernel
theorem dX5_yearOf_15 : decode cX5_yearOf 15 = .ok (.if_icmp .gt 9, 3) := by decide +kernel
theorem dX5_yearOf_18 : decode cX5_yearOf 18 = .ok (.iinc 1 1, 3) := by decide +kernel
theorem dX5_yearOf_21 : decode cX5_yearOf 21 = .ok (.goto (-13), 3) := by decide +kernel
theorem dX5_yearOf_24 : decode cX5_yearOf 24 = .ok (.iload_n 1, 1) := by decide +kernel
theorem dX5_yearOf_25 : decode cX5_yearOf 25 = .ok (.ireturn, 1) := by decide +kernel
theorem dX5_monthOf_0 : decode cX5_monthOf 0 = .ok (.iload_n 0, 1) := by decide +kernel
theorem dX5_monthOf_1 : decode cX5_monthOf 1 = .ok (.invokestatic 54, 3) := by decide +kernel
theorem dX5_monthOf_4 : decode cX5_monthOf 4 = .ok (.istore_n 1, 1) := by decide +kernel
theorem dX5_monthOf_5 : decode cX5_monthOf 5 = .ok (.bipush 12, 2) := by decide +kernel
theorem dX5_monthOf_7 : decode cX5_monthOf 7 = .ok (.istore_n 2, 1) := by decide +kernel
theorem dX5_monthOf_8 : decode cX5_monthOf 8 = .ok (.iload_n 1, 1) := by decide +kernel
theorem dX5_monthOf_9 : decode cX5_monthOf 9 = .ok (.iload_n 2, 1) := by decide +kernel
theorem dX5_monthOf_10 : decode cX5_monthOf 10 = .ok (.iconst 1, 1) := by decide +kernel
theorem dX5_monthOf_11 : decode cX5_monthOf 11 = .ok (.invokestatic 57, 3) := by decide +kernel
theorem dX5_monthOf_14 : decode cX5_monthOf 14 = .ok (.iload_n 0, 1) := by decide +kernel
theorem dX5_monthOf_15 : decode cX5_monthOf 15 = .ok (.if_icmp .le 9, 3) := by decide +kernel
theorem dX5_monthOf_18 : decode cX5_monthOf 18 = .ok (.iinc 2 (-1), 3) := by decide +kernel
theorem dX5_monthOf_21 : decode cX5_monthOf 21 = .ok (.goto (-13), 3) := by decide +kernel
theorem dX5_monthOf_24 : decode cX5_monthOf 24 = .ok (.iload_n 2, 1) := by decide +kernel
theorem dX5_monthOf_25 : decode cX5_monthOf 25 = .ok (.ireturn, 1) := by decide +kernel
theorem dX5_dayOf_0 : decode cX5_dayOf 0 = .ok (.iload_n 0, 1) := by decide +kernel
theorem dX5_dayOf_1 : decode cX5_dayOf 1 = .ok (.iload_n 0, 1) := by decide +kernel
theorem dX5_dayOf_2 : decode cX5_dayOf 2 = .ok (.invokestatic 54, 3) := by decide +kernel
theorem dX5_dayOf_5 : decode cX5_dayOf 5 = .ok (.iload_n 0, 1) := by decide +kernel
theorem dX5_dayOf_6 : decode cX5_dayOf 6 = .ok (.invokestatic 61, 3) := by decide +kernel
theorem dX5_dayOf_9 : decode cX5_dayOf 9 = .ok (.iconst 1, 1) := by decide +kernel
theorem dX5_dayOf_10 : decode cX5_dayOf 10 = .ok (.invokestatic 57, 3) := by decide +kernel
theorem dX5_dayOf_13 : decode cX5_dayOf 13 = .ok (.isub, 1) := by decide +kernel
theorem dX5_dayOf_14 : decode cX5_dayOf 14 = .ok (.iconst 1, 1) := by decide +kernel
theorem dX5_dayOf_15 : decode cX5_dayOf 15 = .ok (.iadd, 1) := by decide +kernel
theorem dX5_dayOf_16 : decode cX5_dayOf 16 = .ok (.ireturn, 1) := by decide +kernel
theorem dX5_weekdayOf_0 : decode cX5_weekdayOf 0 = .ok (.iload_n 0, 1) := by decide +kernel
theorem dX5_weekdayOf_1 : decode cX5_weekdayOf 1 = .ok (.bipush 7, 2) := by decide +kernel
theorem dX5_weekdayOf_3 : decode cX5_weekdayOf 3 = .ok (.irem, 1) := by decide +kernel
theorem dX5_weekdayOf_4 : decode cX5_weekdayOf 4 = .ok (.iconst 1, 1) := by decide +kernel
theorem dX5_weekdayOf_5 : decode cX5_weekdayOf 5 = .ok (.iadd, 1) := by decide +kernel
theorem dX5_weekdayOf_6 : decode cX5_weekdayOf 6 = .ok (.ireturn, 1) := by decide +kernel
theorem dX5_isDate_0 : decode cX5_isDate 0 = .ok (.iload_n 0, 1) := by decide +kernel
theorem dX5_isDate_1 : decode cX5_isDate 1 = .ok (.iconst 1, 1) := by decide +kernel
theorem dX5_isDate_2 : decode cX5_isDate 2 = .ok (.sipush 9999, 3) := by decide +kernel
theorem dX5_isDate_5 : decode cX5_isDate 5 = .ok (.invokestatic 38, 3) := by decide +kernel
theorem dX5_isDate_8 : decode cX5_isDate 8 = .ok (.ifCond .eq 30, 3) := by decide +kernel
theorem dX5_isDate_11 : decode cX5_isDate 11 = .ok (.iload_n 1, 1) := by decide +kernel
theorem dX5_isDate_12 : decode cX5_isDate 12 = .ok (.iconst 1, 1) := by decide +kernel
theorem dX5_isDate_13 : decode cX5_isDate 13 = .ok (.bipush 12, 2) := by decide +kernel
theorem dX5_isDate_15 : decode cX5_isDate 15 = .ok (.invokestatic 38, 3) := by decide +kernel
theorem dX5_isDate_18 : decode cX5_isDate 18 = .ok (.ifCond .eq 20, 3) := by decide +kernel
theorem dX5_isDate_21 : decode cX5_isDate 21 = .ok (.iload_n 2, 1) := by decide +kernel
theorem dX5_isDate_22 : decode cX5_isDate 22 = .ok (.iconst 1, 1) := by decide +kernel
theorem dX5_isDate_23 : decode cX5_isDate 23 = .ok (.iload_n 0, 1) := by decide +kernel
theorem dX5_isDate_24 : decode cX5_isDate 24 = .ok (.iload_n 1, 1) := by decide +kernel
theorem dX5_isDate_25 : decode cX5_isDate 25 = .ok (.invokestatic 50, 3) := by decide +kernel
theorem dX5_isDate_28 : decode cX5_isDate 28 = .ok (.invokestatic 38, 3) := by decide +kernel
theorem dX5_isDate_31 : decode cX5_isDate 31 = .ok (.ifCond .eq 7, 3) := by decide +kernel
theorem dX5_isDate_34 : decode cX5_isDate 34 = .ok (.iconst 1, 1) := by decide +kernel
theorem dX5_isDate_35 : decode cX5_isDate 35 = .ok (.goto 4, 3) := by decide +kernel
theorem dX5_isDate_38 : decode cX5_isDate 38 = .ok (.iconst 0, 1) := by decide +kernel
theorem dX5_isDate_39 : decode cX5_isDate 39 = .ok (.ireturn, 1) := by decide +kernel
theorem dX5_firstMonday_0 : decode cX5_firstMonday 0 = .ok (.iload_n 0, 1) := by decide +kernel
theorem dX5_firstMonday_1 : decode cX5_firstMonday 1 = .ok (.invokestatic 46, 3) := by decide +kernel
theorem dX5_firstMonday_4 : decode cX5_firstMonday 4 = .ok (.iconst 3, 1) := by decide +kernel
theorem dX5_firstMonday_5 : decode cX5_firstMonday 5 = .ok (.iadd, 1) := by decide +kernel
theorem dX5_firstMonday_6 : decode cX5_firstMonday 6 = .ok (.istore_n 1, 1) := by decide +kernel
theorem dX5_firstMonday_7 : decode cX5_firstMonday 7 = .ok (.iload_n 1, 1) := by decide +kernel
theorem dX5_firstMonday_8 : decode cX5_firstMonday 8 = .ok (.iload_n 1, 1) := by decide +kernel
theorem dX5_firstMonday_9 : decode cX5_firstMonday 9 = .ok (.invokestatic 64, 3) := by decide +kernel
theorem dX5_firstMonday_12 : decode cX5_firstMonday 12 = .ok (.iconst 1, 1) := by decide +kernel
theorem dX5_firstMonday_13 : decode cX5_firstMonday 13 = .ok (.isub, 1) := by decide +kernel
theorem dX5_firstMonday_14 : decode cX5_firstMonday 14 = .ok (.isub, 1) := by decide +kernel
theorem dX5_firstMonday_15 : decode cX5_firstMonday 15 = .ok (.ireturn, 1) := by decide +kernel
theorem dX5_weeksOf_0 : decode cX5_weeksOf 0 = .ok (.iload_n 0, 1) := by decide +kernel
theorem dX5_weeksOf_1 : decode cX5_weeksOf 1 = .ok (.iconst 1, 1) := by decide +kernel
theorem dX5_weeksOf_2 : decode cX5_weeksOf 2 = .ok (.iadd, 1) := by decide +kernel
theorem dX5_weeksOf_3 : decode cX5_weeksOf 3 = .ok (.invokestatic 67, 3) := by decide +kernel
theorem dX5_weeksOf_6 : decode cX5_weeksOf 6 = .ok (.iload_n 0, 1) := by decide +kernel
theorem dX5_weeksOf_7 : decode cX5_weeksOf 7 = .ok (.invokestatic 67, 3) := by decide +kernel
theorem dX5_weeksOf_10 : decode cX5_weeksOf 10 = .ok (.isub, 1) := by decide +kernel
theorem dX5_weeksOf_11 : decode cX5_weeksOf 11 = .ok (.bipush 7, 2) := by decide +kernel
theorem dX5_weeksOf_13 : decode cX5_weeksOf 13 = .ok (.idiv, 1) := by decide +kernel
theorem dX5_weeksOf_14 : decode cX5_weeksOf 14 = .ok (.ireturn, 1) := by decide +kernel
theorem dX5_weekYearOf_0 : decode cX5_weekYearOf 0 = .ok (.iload_n 0, 1) := by decide +kernel
theorem dX5_weekYearOf_1 : decode cX5_weekYearOf 1 = .ok (.iload_n 0, 1) := by decide +kernel
theorem dX5_weekYearOf_2 : decode cX5_weekYearOf 2 = .ok (.invokestatic 64, 3) := by decide +kernel
theorem dX5_weekYearOf_5 : decode cX5_weekYearOf 5 = .ok (.isub, 1) := by decide +kernel
theorem dX5_weekYearOf_6 : decode cX5_weekYearOf 6 = .ok (.iconst 4, 1) := by decide +kernel
theorem dX5_weekYearOf_7 : decode cX5_weekYearOf 7 = .ok (.iadd, 1) := by decide +kernel
theorem dX5_weekYearOf_8 : decode cX5_weekYearOf 8 = .ok (.istore_n 1, 1) := by decide +kernel
theorem dX5_weekYearOf_9 : decode cX5_weekYearOf 9 = .ok (.iload_n 1, 1) := by decide +kernel
theorem dX5_weekYearOf_10 : decode cX5_weekYearOf 10 = .ok (.invokestatic 54, 3) := by decide +kernel
theorem dX5_weekYearOf_13 : decode cX5_weekYearOf 13 = .ok (.ireturn, 1) := by decide +kernel
theorem dX5_weekOf_0 : decode cX5_weekOf 0 = .ok (.iload_n 0, 1) := by decide +kernel
theorem dX5_weekOf_1 : decode cX5_weekOf 1 = .ok (.iload_n 0, 1) := by decide +kernel
theorem dX5_weekOf_2 : decode cX5_weekOf 2 = .ok (.invokestatic 70, 3) := by decide +kernel
theorem dX5_weekOf_5 : decode cX5_weekOf 5 = .ok (.invokestatic 67, 3) := by decide +kernel
theorem dX5_weekOf_8 : decode cX5_weekOf 8 = .ok (.isub, 1) := by decide +kernel
theorem dX5_weekOf_9 : decode cX5_weekOf 9 = .ok (.bipush 7, 2) := by decide +kernel
theorem dX5_weekOf_11 : decode cX5_weekOf 11 = .ok (.idiv, 1) := by decide +kernel
theorem dX5_weekOf_12 : decode cX5_weekOf 12 = .ok (.iconst 1, 1) := by decide +kernel
theorem dX5_weekOf_13 : decode cX5_weekOf 13 = .ok (.iadd, 1) := by decide +kernel
theorem dX5_weekOf_14 : decode cX5_weekOf 14 = .ok (.ireturn, 1) := by decide +kernel
theorem dX5_easterOf_0 : decode cX5_easterOf 0 = .ok (.iload_n 0, 1) := by decide +kernel
theorem dX5_easterOf_1 : decode cX5_easterOf 1 = .ok (.bipush 19, 2) := by decide +kernel
theorem dX5_easterOf_3 : decode cX5_easterOf 3 = .ok (.irem, 1) := by decide +kernel
theorem dX5_easterOf_4 : decode cX5_easterOf 4 = .ok (.istore_n 1, 1) := by decide +kernel
theorem dX5_easterOf_5 : decode cX5_easterOf 5 = .ok (.iload_n 0, 1) := by decide +kernel
theorem dX5_easterOf_6 : decode cX5_easterOf 6 = .ok (.bipush 100, 2) := by decide +kernel
theorem dX5_easterOf_8 : decode cX5_easterOf 8 = .ok (.idiv, 1) := by decide +kernel
theorem dX5_easterOf_9 : decode cX5_easterOf 9 = .ok (.istore_n 2, 1) := by decide +kernel
theorem dX5_easterOf_10 : decode cX5_easterOf 10 = .ok (.iload_n 2, 1) := by decide +kernel
theorem dX5_easterOf_11 : decode cX5_easterOf 11 = .ok (.iload_n 2, 1) := by decide +kernel
theorem dX5_easterOf_12 : decode cX5_easterOf 12 = .ok (.iconst 4, 1) := by decide +kernel
theorem dX5_easterOf_13 : decode cX5_easterOf 13 = .ok (.idiv, 1) := by decide +kernel
theorem dX5_easterOf_14 : decode cX5_easterOf 14 = .ok (.isub, 1) := by decide +kernel
theorem dX5_easterOf_15 : decode cX5_easterOf 15 = .ok (.bipush 8, 2) := by decide +kernel
theorem dX5_easterOf_17 : decode cX5_easterOf 17 = .ok (.iload_n 2, 1) := by decide +kernel
theorem dX5_easterOf_18 : decode cX5_easterOf 18 = .ok (.imul, 1) := by decide +kernel
theorem dX5_easterOf_19 : decode cX5_easterOf 19 = .ok (.bipush 13, 2) := by decide +kernel
theorem dX5_easterOf_21 : decode cX5_easterOf 21 = .ok (.iadd, 1) := by decide +kernel
theorem dX5_easterOf_22 : decode cX5_easterOf 22 = .ok (.bipush 25, 2) := by decide +kernel
theorem dX5_easterOf_24 : decode cX5_easterOf 24 = .ok (.idiv, 1) := by decide +kernel
theorem dX5_easterOf_25 : decode cX5_easterOf 25 = .ok (.isub, 1) := by decide +kernel
theorem dX5_easterOf_26 : decode cX5_easterOf 26 = .ok (.bipush 19, 2) := by decide +kernel
theorem dX5_easterOf_28 : decode cX5_easterOf 28 = .ok (.iload_n 1, 1) := by decide +kernel
theorem dX5_easterOf_29 : decode cX5_easterOf 29 = .ok (.imul, 1) := by decide +kernel
theorem dX5_easterOf_30 : decode cX5_easterOf 30 = .ok (.iadd, 1) := by decide +kernel
theorem dX5_easterOf_31 : decode cX5_easterOf 31 = .ok (.bipush 15, 2) := by decide +kernel
theorem dX5_easterOf_33 : decode cX5_easterOf 33 = .ok (.iadd, 1) := by decide +kernel
theorem dX5_easterOf_34 : decode cX5_easterOf 34 = .ok (.bipush 30, 2) := by decide +kernel
theorem dX5_easterOf_36 : decode cX5_easterOf 36 = .ok (.irem, 1) := by decide +kernel
theorem dX5_easterOf_37 : decode cX5_easterOf 37 = .ok (.istore_n 3, 1) := by decide +kernel
theorem dX5_easterOf_38 : decode cX5_easterOf 38 = .ok (.iload_n 3, 1) := by decide +kernel
theorem dX5_easterOf_39 : decode cX5_easterOf 39 = .ok (.bipush 29, 2) := by decide +kernel
theorem dX5_easterOf_41 : decode cX5_easterOf 41 = .ok (.if_icmp .ne 8, 3) := by decide +kernel
theorem dX5_easterOf_44 : decode cX5_easterOf 44 = .ok (.bipush 28, 2) := by decide +kernel
theorem dX5_easterOf_46 : decode cX5_easterOf 46 = .ok (.goto 21, 3) := by decide +kernel
theorem dX5_easterOf_49 : decode cX5_easterOf 49 = .ok (.iload_n 3, 1) := by decide +kernel
theorem dX5_easterOf_50 : decode cX5_easterOf 50 = .ok (.bipush 28, 2) := by decide +kernel
theorem dX5_easterOf_52 : decode cX5_easterOf 52 = .ok (.if_icmp .ne 14, 3) := by decide +kernel
theorem dX5_easterOf_55 : decode cX5_easterOf 55 = .ok (.iload_n 1, 1) := by decide +kernel
theorem dX5_easterOf_56 : decode cX5_easterOf 56 = .ok (.bipush 10, 2) := by decide +kernel
theorem dX5_easterOf_58 : decode cX5_easterOf 58 = .ok (.if_icmp .le 8, 3) := by decide +kernel
theorem dX5_easterOf_61 : decode cX5_easterOf 61 = .ok (.bipush 27, 2) := by decide +kernel
theorem dX5_easterOf_63 : decode cX5_easterOf 63 = .ok (.goto 4, 3) := by decide +kernel
theorem dX5_easterOf_66 : decode cX5_easterOf 66 = .ok (.iload_n 3, 1) := by decide +kernel
theorem dX5_easterOf_67 : decode cX5_easterOf 67 = .ok (.istore 4, 2) := by decide +kernel
theorem dX5_easterOf_69 : decode cX5_easterOf 69 = .ok (.iload_n 0, 1) := by decide +kernel
theorem dX5_easterOf_70 : decode cX5_easterOf 70 = .ok (.iconst 3, 1) := by decide +kernel
theorem dX5_easterOf_71 : decode cX5_easterOf 71 = .ok (.bipush 21, 2) := by decide +kernel
theorem dX5_easterOf_73 : decode cX5_easterOf 73 = .ok (.invokestatic 57, 3) := by decide +kernel
theorem dX5_easterOf_76 : decode cX5_easterOf 76 = .ok (.iload 4, 2) := by decide +kernel
theorem dX5_easterOf_78 : decode cX5_easterOf 78 = .ok (.iadd, 1) := by decide +kernel
theorem dX5_easterOf_79 : decode cX5_easterOf 79 = .ok (.iconst 1, 1) := by decide +kernel
theorem dX5_easterOf_80 : decode cX5_easterOf 80 = .ok (.iadd, 1) := by decide +kernel
theorem dX5_easterOf_81 : decode cX5_easterOf 81 = .ok (.istore 5, 2) := by decide +kernel
theorem dX5_easterOf_83 : decode cX5_easterOf 83 = .ok (.iload 5, 2) := by decide +kernel
theorem dX5_easterOf_85 : decode cX5_easterOf 85 = .ok (.invokestatic 64, 3) := by decide +kernel
theorem dX5_easterOf_88 : decode cX5_easterOf 88 = .ok (.bipush 7, 2) := by decide +kernel
theorem dX5_easterOf_90 : decode cX5_easterOf 90 = .ok (.if_icmp .eq 9, 3) := by decide +kernel
theorem dX5_easterOf_93 : decode cX5_easterOf 93 = .ok (.iinc 5 1, 3) := by decide +kernel
theorem dX5_easterOf_96 : decode cX5_easterOf 96 = .ok (.goto (-13), 3) := by decide +kernel
theorem dX5_easterOf_99 : decode cX5_easterOf 99 = .ok (.iload 5, 2) := by decide +kernel
theorem dX5_easterOf_101 : decode cX5_easterOf 101 = .ok (.ireturn, 1) := by decide +kernel
theorem dX5_nthOf_0 : decode cX5_nthOf 0 = .ok (.iload_n 0, 1) := by decide +kernel
theorem dX5_nthOf_1 : decode cX5_nthOf 1 = .ok (.iload_n 1, 1) := by decide +kernel
theorem dX5_nthOf_2 : decode cX5_nthOf 2 = .ok (.iconst 1, 1) := by decide +kernel
theorem dX5_nthOf_3 : decode cX5_nthOf 3 = .ok (.invokestatic 57, 3) := by decide +kernel
theorem dX5_nthOf_6 : decode cX5_nthOf 6 = .ok (.istore 4, 2) := by decide +kernel
theorem dX5_nthOf_8 : decode cX5_nthOf 8 = .ok (.iload 4, 2) := by decide +kernel
theorem dX5_nthOf_10 : decode cX5_nthOf 10 = .ok (.iload_n 0, 1) := by decide +kernel
theorem dX5_nthOf_11 : decode cX5_nthOf 11 = .ok (.iload_n 1, 1) := by decide +kernel
theorem dX5_nthOf_12 : decode cX5_nthOf 12 = .ok (.invokestatic 50, 3) := by decide +kernel
theorem dX5_nthOf_15 : decode cX5_nthOf 15 = .ok (.iadd, 1) := by decide +kernel
theorem dX5_nthOf_16 : decode cX5_nthOf 16 = .ok (.iconst 1, 1) := by decide +kernel
theorem dX5_nthOf_17 : decode cX5_nthOf 17 = .ok (.isub, 1) := by decide +kernel
theorem dX5_nthOf_18 : decode cX5_nthOf 18 = .ok (.istore 5, 2) := by decide +kernel
theorem dX5_nthOf_20 : decode cX5_nthOf 20 = .ok (.iconst 0, 1) := by decide +kernel
theorem dX5_nthOf_21 : decode cX5_nthOf 21 = .ok (.istore 6, 2) := by decide +kernel
theorem dX5_nthOf_23 : decode cX5_nthOf 23 = .ok (.iload_n 3, 1) := by decide +kernel
theorem dX5_nthOf_24 : decode cX5_nthOf 24 = .ok (.ifCond .le 8, 3) := by decide +kernel
theorem dX5_nthOf_27 : decode cX5_nthOf 27 = .ok (.iload 4, 2) := by decide +kernel
theorem dX5_nthOf_29 : decode cX5_nthOf 29 = .ok (.goto 5, 3) := by decide +kernel
theorem dX5_nthOf_32 : decode cX5_nthOf 32 = .ok (.iload 5, 2) := by decide +kernel
theorem dX5_nthOf_34 : decode cX5_nthOf 34 = .ok (.istore 7, 2) := by decide +kernel
theorem dX5_nthOf_36 : decode cX5_nthOf 36 = .ok (.iload 7, 2) := by decide +kernel
theorem dX5_nthOf_38 : decode cX5_nthOf 38 = .ok (.iload 4, 2) := by decide +kernel
theorem dX5_nthOf_40 : decode cX5_nthOf 40 = .ok (.if_icmp .lt 78, 3) := by decide +kernel
theorem dX5_nthOf_43 : decode cX5_nthOf 43 = .ok (.iload 7, 2) := by decide +kernel
theorem dX5_nthOf_45 : decode cX5_nthOf 45 = .ok (.iload 5, 2) := by decide +kernel
theorem dX5_nthOf_47 : decode cX5_nthOf 47 = .ok (.if_icmp .gt 71, 3) := by decide +kernel
theorem dX5_nthOf_50 : decode cX5_nthOf 50 = .ok (.iload 6, 2) := by decide +kernel
theorem dX5_nthOf_52 : decode cX5_nthOf 52 = .ok (.iload 7, 2) := by decide +kernel
theorem dX5_nthOf_54 : decode cX5_nthOf 54 = .ok (.invokestatic 64, 3) := by decide +kernel
theorem dX5_nthOf_57 : decode cX5_nthOf 57 = .ok (.iload_n 2, 1) := by decide +kernel
theorem dX5_nthOf_58 : decode cX5_nthOf 58 = .ok (.if_icmp .ne 7, 3) := by decide +kernel
theorem dX5_nthOf_61 : decode cX5_nthOf 61 = .ok (.iconst 1, 1) := by decide +kernel
theorem dX5_nthOf_62 : decode cX5_nthOf 62 = .ok (.goto 4, 3) := by decide +kernel
theorem dX5_nthOf_65 : decode cX5_nthOf 65 = .ok (.iconst 0, 1) := by decide +kernel
theorem dX5_nthOf_66 : decode cX5_nthOf 66 = .ok (.iadd, 1) := by decide +kernel
theorem dX5_nthOf_67 : decode cX5_nthOf 67 = .ok (.istore 6, 2) := by decide +kernel
theorem dX5_nthOf_69 : decode cX5_nthOf 69 = .ok (.iload 7, 2) := by decide +kernel
theorem dX5_nthOf_71 : decode cX5_nthOf 71 = .ok (.invokestatic 64, 3) := by decide +kernel
theorem dX5_nthOf_74 : decode cX5_nthOf 74 = .ok (.iload_n 2, 1) := by decide +kernel
theorem dX5_nthOf_75 : decode cX5_nthOf 75 = .ok (.if_icmp .ne 26, 3) := by decide +kernel
theorem dX5_nthOf_78 : decode cX5_nthOf 78 = .ok (.iload_n 3, 1) := by decide +kernel
theorem dX5_nthOf_79 : decode cX5_nthOf 79 = .ok (.ifCond .le 12, 3) := by decide +kernel
theorem dX5_nthOf_82 : decode cX5_nthOf 82 = .ok (.iload 6, 2) := by decide +kernel
theorem dX5_nthOf_84 : decode cX5_nthOf 84 = .ok (.iload_n 3, 1) := by decide +kernel
theorem dX5_nthOf_85 : decode cX5_nthOf 85 = .ok (.if_icmp .ne 16, 3) := by decide +kernel
theorem dX5_nthOf_88 : decode cX5_nthOf 88 = .ok (.goto 10, 3) := by decide +kernel
theorem dX5_nthOf_91 : decode cX5_nthOf 91 = .ok (.iload 6, 2) := by decide +kernel
theorem dX5_nthOf_93 : decode cX5_nthOf 93 = .ok (.ineg, 1) := by decide +kernel
theorem dX5_nthOf_94 : decode cX5_nthOf 94 = .ok (.iload_n 3, 1) := by decide +kernel
theorem dX5_nthOf_95 : decode cX5_nthOf 95 = .ok (.if_icmp .ne 6, 3) := by decide +kernel
theorem dX5_nthOf_98 : decode cX5_nthOf 98 = .ok (.iload 7, 2) := by decide +kernel
theorem dX5_nthOf_100 : decode cX5_nthOf 100 = .ok (.ireturn, 1) := by decide +kernel
theorem dX5_nthOf_101 : decode cX5_nthOf 101 = .ok (.iload 7, 2) := by decide +kernel
theorem dX5_nthOf_103 : decode cX5_nthOf 103 = .ok (.iload_n 3, 1) := by decide +kernel
theorem dX5_nthOf_104 : decode cX5_nthOf 104 = .ok (.ifCond .le 7, 3) := by decide +kernel
theorem dX5_nthOf_107 : decode cX5_nthOf 107 = .ok (.iconst 1, 1) := by decide +kernel
theorem dX5_nthOf_108 : decode cX5_nthOf 108 = .ok (.goto 4, 3) := by decide +kernel
theorem dX5_nthOf_111 : decode cX5_nthOf 111 = .ok (.iconst (-1), 1) := by decide +kernel
theorem dX5_nthOf_112 : decode cX5_nthOf 112 = .ok (.iadd, 1) := by decide +kernel
theorem dX5_nthOf_113 : decode cX5_nthOf 113 = .ok (.istore 7, 2) := by decide +kernel
theorem dX5_nthOf_115 : decode cX5_nthOf 115 = .ok (.goto (-79), 3) := by decide +kernel
theorem dX5_nthOf_118 : decode cX5_nthOf 118 = .ok (.iconst (-1), 1) := by decide +kernel
