theorem dL_civil_0 : decode cL_civil 0 = .ok (.aload 5, 2) := by decide +kernel
theorem dL_civil_2 : decode cL_civil 2 = .ok (.iconst 0, 1) := by decide +kernel
theorem dL_civil_3 : decode cL_civil 3 = .ok (.aload_n 0, 1) := by decide +kernel
theorem dL_civil_4 : decode cL_civil 4 = .ok (.iload_n 1, 1) := by decide +kernel
theorem dL_civil_5 : decode cL_civil 5 = .ok (.iload_n 2, 1) := by decide +kernel
theorem dL_civil_6 : decode cL_civil 6 = .ok (.iload_n 3, 1) := by decide +kernel
theorem dL_civil_7 : decode cL_civil 7 = .ok (.iload 4, 2) := by decide +kernel
theorem dL_civil_9 : decode cL_civil 9 = .ok (.invokevirtual 7, 3) := by decide +kernel
theorem dL_civil_12 : decode cL_civil 12 = .ok (.i2l, 1) := by decide +kernel
theorem dL_civil_13 : decode cL_civil 13 = .ok (.lastore, 1) := by decide +kernel
theorem dL_civil_14 : decode cL_civil 14 = .ok (.goto 11, 3) := by decide +kernel
theorem dL_civil_17 : decode cL_civil 17 = .ok (.astore 6, 2) := by decide +kernel
theorem dL_civil_19 : decode cL_civil 19 = .ok (.iconst 1, 1) := by decide +kernel
theorem dL_civil_20 : decode cL_civil 20 = .ok (.ireturn, 1) := by decide +kernel
theorem dL_civil_21 : decode cL_civil 21 = .ok (.astore 6, 2) := by decide +kernel
theorem dL_civil_23 : decode cL_civil 23 = .ok (.iconst 2, 1) := by decide +kernel
theorem dL_civil_24 : decode cL_civil 24 = .ok (.ireturn, 1) := by decide +kernel
theorem dL_civil_25 : decode cL_civil 25 = .ok (.iconst 0, 1) := by decide +kernel
theorem dL_civil_26 : decode cL_civil 26 = .ok (.ireturn, 1) := by decide +kernel
theorem dL_days_0 : decode cL_days 0 = .ok (.aload_n 3, 1) := by decide +kernel
theorem dL_days_1 : decode cL_days 1 = .ok (.iconst 0, 1) := by decide +kernel
theorem dL_days_2 : decode cL_days 2 = .ok (.aload_n 0, 1) := by decide +kernel
theorem dL_days_3 : decode cL_days 3 = .ok (.iload_n 1, 1) := by decide +kernel
theorem dL_days_4 : decode cL_days 4 = .ok (.iload_n 2, 1) := by decide +kernel
theorem dL_days_5 : decode cL_days 5 = .ok (.invokevirtual 17, 3) := by decide +kernel
theorem dL_days_8 : decode cL_days 8 = .ok (.i2l, 1) := by decide +kernel
theorem dL_days_9 : decode cL_days 9 = .ok (.lastore, 1) := by decide +kernel
theorem dL_days_10 : decode cL_days 10 = .ok (.goto 11, 3) := by decide +kernel
theorem dL_days_13 : decode cL_days 13 = .ok (.astore 4, 2) := by decide +kernel
theorem dL_days_15 : decode cL_days 15 = .ok (.iconst 1, 1) := by decide +kernel
theorem dL_days_16 : decode cL_days 16 = .ok (.ireturn, 1) := by decide +kernel
theorem dL_days_17 : decode cL_days 17 = .ok (.astore 4, 2) := by decide +kernel
theorem dL_days_19 : decode cL_days 19 = .ok (.iconst 2, 1) := by decide +kernel
theorem dL_days_20 : decode cL_days 20 = .ok (.ireturn, 1) := by decide +kernel
theorem dL_days_21 : decode cL_days 21 = .ok (.iconst 0, 1) := by decide +kernel
theorem dL_days_22 : decode cL_days 22 = .ok (.ireturn, 1) := by decide +kernel
theorem dL_week_0 : decode cL_week 0 = .ok (.aload 5, 2) := by decide +kernel
theorem dL_week_2 : decode cL_week 2 = .ok (.iconst 0, 1) := by decide +kernel
theorem dL_week_3 : decode cL_week 3 = .ok (.aload_n 0, 1) := by decide +kernel
theorem dL_week_4 : decode cL_week 4 = .ok (.iload_n 1, 1) := by decide +kernel
theorem dL_week_5 : decode cL_week 5 = .ok (.iload_n 2, 1) := by decide +kernel
theorem dL_week_6 : decode cL_week 6 = .ok (.iload_n 3, 1) := by decide +kernel
theorem dL_week_7 : decode cL_week 7 = .ok (.iload 4, 2) := by decide +kernel
theorem dL_week_9 : decode cL_week 9 = .ok (.invokevirtual 21, 3) := by decide +kernel
theorem dL_week_12 : decode cL_week 12 = .ok (.i2l, 1) := by decide +kernel
theorem dL_week_13 : decode cL_week 13 = .ok (.lastore, 1) := by decide +kernel
theorem dL_week_14 : decode cL_week 14 = .ok (.goto 11, 3) := by decide +kernel
theorem dL_week_17 : decode cL_week 17 = .ok (.astore 6, 2) := by decide +kernel
theorem dL_week_19 : decode cL_week 19 = .ok (.iconst 1, 1) := by decide +kernel
theorem dL_week_20 : decode cL_week 20 = .ok (.ireturn, 1) := by decide +kernel
theorem dL_week_21 : decode cL_week 21 = .ok (.astore 6, 2) := by decide +kernel
theorem dL_week_23 : decode cL_week 23 = .ok (.iconst 2, 1) := by decide +kernel
theorem dL_week_24 : decode cL_week 24 = .ok (.ireturn, 1) := by decide +kernel
theorem dL_week_25 : decode cL_week 25 = .ok (.iconst 0, 1) := by decide +kernel
theorem dL_week_26 : decode cL_week 26 = .ok (.ireturn, 1) := by decide +kernel
theorem dL_easter_0 : decode cL_easter 0 = .ok (.aload_n 3, 1) := by decide +kernel
theorem dL_easter_1 : decode cL_easter 1 = .ok (.iconst 0, 1) := by decide +kernel
theorem dL_easter_2 : decode cL_easter 2 = .ok (.aload_n 0, 1) := by decide +kernel
theorem dL_easter_3 : decode cL_easter 3 = .ok (.iload_n 1, 1) := by decide +kernel
theorem dL_easter_4 : decode cL_easter 4 = .ok (.iload_n 2, 1) := by decide +kernel
theorem dL_easter_5 : decode cL_easter 5 = .ok (.invokevirtual 24, 3) := by decide +kernel
theorem dL_easter_8 : decode cL_easter 8 = .ok (.i2l, 1) := by decide +kernel
theorem dL_easter_9 : decode cL_easter 9 = .ok (.lastore, 1) := by decide +kernel
theorem dL_easter_10 : decode cL_easter 10 = .ok (.goto 11, 3) := by decide +kernel
theorem dL_easter_13 : decode cL_easter 13 = .ok (.astore 4, 2) := by decide +kernel
theorem dL_easter_15 : decode cL_easter 15 = .ok (.iconst 1, 1) := by decide +kernel
theorem dL_easter_16 : decode cL_easter 16 = .ok (.ireturn, 1) := by decide +kernel
theorem dL_easter_17 : decode cL_easter 17 = .ok (.astore 4, 2) := by decide +kernel
theorem dL_easter_19 : decode cL_easter 19 = .ok (.iconst 2, 1) := by decide +kernel
theorem dL_easter_20 : decode cL_easter 20 = .ok (.ireturn, 1) := by decide +kernel
theorem dL_easter_21 : decode cL_easter 21 = .ok (.iconst 0, 1) := by decide +kernel
theorem dL_easter_22 : decode cL_easter 22 = .ok (.ireturn, 1) := by decide +kernel
theorem dL_nth_0 : decode cL_nth 0 = .ok (.aload 6, 2) := by decide +kernel
theorem dL_nth_2 : decode cL_nth 2 = .ok (.iconst 0, 1) := by decide +kernel
theorem dL_nth_3 : decode cL_nth 3 = .ok (.aload_n 0, 1) := by decide +kernel
theorem dL_nth_4 : decode cL_nth 4 = .ok (.iload_n 1, 1) := by decide +kernel
theorem dL_nth_5 : decode cL_nth 5 = .ok (.iload_n 2, 1) := by decide +kernel
theorem dL_nth_6 : decode cL_nth 6 = .ok (.iload_n 3, 1) := by decide +kernel
theorem dL_nth_7 : decode cL_nth 7 = .ok (.iload 4, 2) := by decide +kernel
theorem dL_nth_9 : decode cL_nth 9 = .ok (.iload 5, 2) := by decide +kernel
theorem dL_nth_11 : decode cL_nth 11 = .ok (.invokevirtual 27, 3) := by decide +kernel
theorem dL_nth_14 : decode cL_nth 14 = .ok (.i2l, 1) := by decide +kernel
theorem dL_nth_15 : decode cL_nth 15 = .ok (.lastore, 1) := by decide +kernel
theorem dL_nth_16 : decode cL_nth 16 = .ok (.goto 11, 3) := by decide +kernel
theorem dL_nth_19 : decode cL_nth 19 = .ok (.astore 7, 2) := by decide +kernel
theorem dL_nth_21 : decode cL_nth 21 = .ok (.iconst 1, 1) := by decide +kernel
theorem dL_nth_22 : decode cL_nth 22 = .ok (.ireturn, 1) := by decide +kernel
theorem dL_nth_23 : decode cL_nth 23 = .ok (.astore 7, 2) := by decide +kernel
theorem dL_nth_25 : decode cL_nth 25 = .ok (.iconst 2, 1) := by decide +kernel
theorem dL_nth_26 : decode cL_nth 26 = .ok (.ireturn, 1) := by decide +kernel
theorem dL_nth_27 : decode cL_nth 27 = .ok (.iconst 0, 1) := by decide +kernel
theorem dL_nth_28 : decode cL_nth 28 = .ok (.ireturn, 1) := by decide +kernel
theorem dL_move_0 : decode cL_move 0 = .ok (.aload 4, 2) := by decide +kernel
theorem dL_move_2 : decode cL_move 2 = .ok (.iconst 0, 1) := by decide +kernel
theorem dL_move_3 : decode cL_move 3 = .ok (.aload_n 0, 1) := by decide +kernel
theorem dL_move_4 : decode cL_move 4 = .ok (.iload_n 1, 1) := by decide +kernel
theorem dL_move_5 : decode cL_move 5 = .ok (.iload_n 2, 1) := by decide +kernel
theorem dL_move_6 : decode cL_move 6 = .ok (.iload_n 3, 1) := by decide +kernel
theorem dL_move_7 : decode cL_move 7 = .ok (.invokevirtual 31, 3) := by decide +kernel
theorem dL_move_10 : decode cL_move 10 = .ok (.i2l, 1) := by decide +kernel
theorem dL_move_11 : decode cL_move 11 = .ok (.lastore, 1) := by decide +kernel
theorem dL_move_12 : decode cL_move 12 = .ok (.goto 19, 3) := by decide +kernel
theorem dL_move_15 : decode cL_move 15 = .ok (.astore 5, 2) := by decide +kernel
theorem dL_move_17 : decode cL_move 17 = .ok (.iconst 1, 1) := by decide +kernel
theorem dL_move_18 : decode cL_move 18 = .ok (.ireturn, 1) := by decide +kernel
theorem dL_move_19 : decode cL_move 19 = .ok (.astore 5, 2) := by decide +kernel
theorem dL_move_21 : decode cL_move 21 = .ok (.iconst 2, 1) := by decide +kernel
theorem dL_move_22 : decode cL_move 22 = .ok (.ireturn, 1) := by decide +kernel
theorem dL_move_23 : decode cL_move 23 = .ok (.astore 5, 2) := by decide +kernel
theorem dL_move_25 : decode cL_move 25 = .ok (.iconst 3, 1) := by decide +kernel
theorem dL_move_26 : decode cL_move 26 = .ok (.ireturn, 1) := by decide +kernel
theorem dL_move_27 : decode cL_move 27 = .ok (.astore 5, 2) := by decide +kernel
theorem dL_move_29 : decode cL_move 29 = .ok (.iconst 4, 1) := by decide +kernel
theorem dL_move_30 : decode cL_move 30 = .ok (.ireturn, 1) := by decide +kernel
theorem dL_move_31 : decode cL_move 31 = .ok (.iconst 0, 1) := by decide +kernel
theorem dL_move_32 : decode cL_move 32 = .ok (.ireturn, 1) := by decide +kernel
theorem dL_told_0 : decode cL_told 0 = .ok (.aload_n 3, 1) := by decide +kernel
theorem dL_told_1 : decode cL_told 1 = .ok (.iconst 0, 1) := by decide +kernel
theorem dL_told_2 : decode cL_told 2 = .ok (.aload_n 0, 1) := by decide +kernel
theorem dL_told_3 : decode cL_told 3 = .ok (.iload_n 1, 1) := by decide +kernel
theorem dL_told_4 : decode cL_told 4 = .ok (.iload_n 2, 1) := by decide +kernel
theorem dL_told_5 : decode cL_told 5 = .ok (.invokevirtual 39, 3) := by decide +kernel
theorem dL_told_8 : decode cL_told 8 = .ok (.i2l, 1) := by decide +kernel
theorem dL_told_9 : decode cL_told 9 = .ok (.lastore, 1) := by decide +kernel
theorem dL_told_10 : decode cL_told 10 = .ok (.goto 15, 3) := by decide +kernel
theorem dL_told_13 : decode cL_told 13 = .ok (.astore 4, 2) := by decide +kernel
theorem dL_told_15 : decode cL_told 15 = .ok (.iconst 1, 1) := by decide +kernel
theorem dL_told_16 : decode cL_told 16 = .ok (.ireturn, 1) := by decide +kernel
theorem dL_told_17 : decode cL_told 17 = .ok (.astore 4, 2) := by decide +kernel
theorem dL_told_19 : decode cL_told 19 = .ok (.iconst 2, 1) := by decide +kernel
theorem dL_told_20 : decode cL_told 20 = .ok (.ireturn, 1) := by decide +kernel
theorem dL_told_21 : decode cL_told 21 = .ok (.astore 4, 2) := by decide +kernel
theorem dL_told_23 : decode cL_told 23 = .ok (.iconst 3, 1) := by decide +kernel
theorem dL_told_24 : decode cL_told 24 = .ok (.ireturn, 1) := by decide +kernel
theorem dL_told_25 : decode cL_told 25 = .ok (.iconst 0, 1) := by decide +kernel
theorem dL_told_26 : decode cL_told 26 = .ok (.ireturn, 1) := by decide +kernel
theorem dL_between_0 : decode cL_between 0 = .ok (.aload 4, 2) := by decide +kernel
theorem dL_between_2 : decode cL_between 2 = .ok (.iconst 0, 1) := by decide +kernel
theorem dL_between_3 : decode cL_between 3 = .ok (.aload_n 0, 1) := by decide +kernel
theorem dL_between_4 : decode cL_between 4 = .ok (.iload_n 1, 1) := by decide +kernel
theorem dL_between_5 : decode cL_between 5 = .ok (.iload_n 2, 1) := by decide +kernel
theorem dL_between_6 : decode cL_between 6 = .ok (.iload_n 3, 1) := by decide +kernel
theorem dL_between_7 : decode cL_between 7 = .ok (.invokevirtual 42, 3) := by decide +kernel
theorem dL_between_10 : decode cL_between 10 = .ok (.i2l, 1) := by decide +kernel
theorem dL_between_11 : decode cL_between 11 = .ok (.lastore, 1) := by decide +kernel
theorem dL_between_12 : decode cL_between 12 = .ok (.goto 15, 3) := by decide +kernel
theorem dL_between_15 : decode cL_between 15 = .ok (.astore 5, 2) := by decide +kernel
theorem dL_between_17 : decode cL_between 17 = .ok (.iconst 1, 1) := by decide +kernel
theorem dL_between_18 : decode cL_between 18 = .ok (.ireturn, 1) := by decide +kernel
theorem dL_between_19 : decode cL_between 19 = .ok (.astore 5, 2) := by decide +kernel
theorem dL_between_21 : decode cL_between 21 = .ok (.iconst 2, 1) := by decide +kernel
theorem dL_between_22 : decode cL_between 22 = .ok (.ireturn, 1) := by decide +kernel
theorem dL_between_23 : decode cL_between 23 = .ok (.astore 5, 2) := by decide +kernel
theorem dL_between_25 : decode cL_between 25 = .ok (.iconst 3, 1) := by decide +kernel
theorem dL_between_26 : decode cL_between 26 = .ok (.ireturn, 1) := by decide +kernel
theorem dL_between_27 : decode cL_between 27 = .ok (.iconst 0, 1) := by decide +kernel
theorem dL_between_28 : decode cL_between 28 = .ok (.ireturn, 1) := by decide +kernel
theorem dL_copy_0 : decode cL_copy 0 = .ok (.aload_n 3, 1) := by decide +kernel
theorem dL_copy_1 : decode cL_copy 1 = .ok (.iconst 0, 1) := by decide +kernel
theorem dL_copy_2 : decode cL_copy 2 = .ok (.aload_n 0, 1) := by decide +kernel
theorem dL_copy_3 : decode cL_copy 3 = .ok (.iload_n 1, 1) := by decide +kernel
theorem dL_copy_4 : decode cL_copy 4 = .ok (.iload_n 2, 1) := by decide +kernel
theorem dL_copy_5 : decode cL_copy 5 = .ok (.invokevirtual 45, 3) := by decide +kernel
theorem dL_copy_8 : decode cL_copy 8 = .ok (.i2l, 1) := by decide +kernel
theorem dL_copy_9 : decode cL_copy 9 = .ok (.lastore, 1) := by decide +kernel
theorem dL_copy_10 : decode cL_copy 10 = .ok (.goto 11, 3) := by decide +kernel
theorem dL_copy_13 : decode cL_copy 13 = .ok (.astore 4, 2) := by decide +kernel
theorem dL_copy_15 : decode cL_copy 15 = .ok (.iconst 1, 1) := by decide +kernel
theorem dL_copy_16 : decode cL_copy 16 = .ok (.ireturn, 1) := by decide +kernel
theorem dL_copy_17 : decode cL_copy 17 = .ok (.astore 4, 2) := by decide +kernel
theorem dL_copy_19 : decode cL_copy 19 = .ok (.iconst 2, 1) := by decide +kernel
theorem dL_copy_20 : decode cL_copy 20 = .ok (.ireturn, 1) := by decide +kernel
theorem dL_copy_21 : decode cL_copy 21 = .ok (.iconst 0, 1) := by decide +kernel
theorem dL_copy_22 : decode cL_copy 22 = .ok (.ireturn, 1) := by decide +kernel
theorem dL_holiday_0 : decode cL_holiday 0 = .ok (.aload 5, 2) := by decide +kernel
theorem dL_holiday_2 : decode cL_holiday 2 = .ok (.iconst 0, 1) := by decide +kernel
theorem dL_holiday_3 : decode cL_holiday 3 = .ok (.aload_n 0, 1) := by decide +kernel
theorem dL_holiday_4 : decode cL_holiday 4 = .ok (.iload_n 1, 1) := by decide +kernel
theorem dL_holiday_5 : decode cL_holiday 5 = .ok (.iload_n 2, 1) := by decide +kernel
theorem dL_holiday_6 : decode cL_holiday 6 = .ok (.iload_n 3, 1) := by decide +kernel
theorem dL_holiday_7 : decode cL_holiday 7 = .ok (.iload 4, 2) := by decide +kernel
theorem dL_holiday_9 : decode cL_holiday 9 = .ok (.invokevirtual 48, 3) := by decide +kernel
theorem dL_holiday_12 : decode cL_holiday 12 = .ok (.i2l, 1) := by decide +kernel
theorem dL_holiday_13 : decode cL_holiday 13 = .ok (.lastore, 1) := by decide +kernel
theorem dL_holiday_14 : decode cL_holiday 14 = .ok (.goto 11, 3) := by decide +kernel
theorem dL_holiday_17 : decode cL_holiday 17 = .ok (.astore 6, 2) := by decide +kernel
theorem dL_holiday_19 : decode cL_holiday 19 = .ok (.iconst 1, 1) := by decide +kernel
theorem dL_holiday_20 : decode cL_holiday 20 = .ok (.ireturn, 1) := by decide +kernel
theorem dL_holiday_21 : decode cL_holiday 21 = .ok (.astore 6, 2) := by decide +kernel
theorem dL_holiday_23 : decode cL_holiday 23 = .ok (.iconst 2, 1) := by decide +kernel
theorem dL_holiday_24 : decode cL_holiday 24 = .ok (.ireturn, 1) := by decide +kernel
theorem dL_holiday_25 : decode cL_holiday 25 = .ok (.iconst 0, 1) := by decide +kernel
theorem dL_holiday_26 : decode cL_holiday 26 = .ok (.ireturn, 1) := by decide +kernel
theorem dL_noHoliday_0 : decode cL_noHoliday 0 = .ok (.aload_n 2, 1) := by decide +kernel
theorem dL_noHoliday_1 : decode cL_noHoliday 1 = .ok (.iconst 0, 1) := by decide +kernel
theorem dL_noHoliday_2 : decode cL_noHoliday 2 = .ok (.aload_n 0, 1) := by decide +kernel
theorem dL_noHoliday_3 : decode cL_noHoliday 3 = .ok (.iload_n 1, 1) := by decide +kernel
theorem dL_noHoliday_4 : decode cL_noHoliday 4 = .ok (.invokevirtual 51, 3) := by decide +kernel
theorem dL_noHoliday_7 : decode cL_noHoliday 7 = .ok (.i2l, 1) := by decide +kernel
theorem dL_noHoliday_8 : decode cL_noHoliday 8 = .ok (.lastore, 1) := by decide +kernel
theorem dL_noHoliday_9 : decode cL_noHoliday 9 = .ok (.goto 6, 3) := by decide +kernel
theorem dL_noHoliday_12 : decode cL_noHoliday 12 = .ok (.astore_n 3, 1) := by decide +kernel
theorem dL_noHoliday_13 : decode cL_noHoliday 13 = .ok (.iconst 1, 1) := by decide +kernel
theorem dL_noHoliday_14 : decode cL_noHoliday 14 = .ok (.ireturn, 1) := by decide +kernel
theorem dL_noHoliday_15 : decode cL_noHoliday 15 = .ok (.iconst 0, 1) := by decide +kernel
theorem dL_noHoliday_16 : decode cL_noHoliday 16 = .ok (.ireturn, 1) := by decide +kernel
theorem dL_weekend_0 : decode cL_weekend 0 = .ok (.aload_n 2, 1) := by decide +kernel
theorem dL_weekend_1 : decode cL_weekend 1 = .ok (.iconst 0, 1) := by decide +kernel
theorem dL_weekend_2 : decode cL_weekend 2 = .ok (.aload_n 0, 1) := by decide +kernel
theorem dL_weekend_3 : decode cL_weekend 3 = .ok (.iload_n 1, 1) := by decide +kernel
theorem dL_weekend_4 : decode cL_weekend 4 = .ok (.invokevirtual 55, 3) := by decide +kernel
theorem dL_weekend_7 : decode cL_weekend 7 = .ok (.i2l, 1) := by decide +kernel
theorem dL_weekend_8 : decode cL_weekend 8 = .ok (.lastore, 1) := by decide +kernel
theorem dL_weekend_9 : decode cL_weekend 9 = .ok (.goto 6, 3) := by decide +kernel
theorem dL_weekend_12 : decode cL_weekend 12 = .ok (.astore_n 3, 1) := by decide +kernel
theorem dL_weekend_13 : decode cL_weekend 13 = .ok (.iconst 1, 1) := by decide +kernel
theorem dL_weekend_14 : decode cL_weekend 14 = .ok (.ireturn, 1) := by decide +kernel
theorem dL_weekend_15 : decode cL_weekend 15 = .ok (.iconst 0, 1) := by decide +kernel
theorem dL_weekend_16 : decode cL_weekend 16 = .ok (.ireturn, 1) := by decide +kernel
theorem dL_isHoliday_0 : decode cL_isHoliday 0 = .ok (.aload_n 2, 1) := by decide +kernel
theorem dL_isHoliday_1 : decode cL_isHoliday 1 = .ok (.iconst 0, 1) := by decide +kernel
theorem dL_isHoliday_2 : decode cL_isHoliday 2 = .ok (.aload_n 0, 1) := by decide +kernel
theorem dL_isHoliday_3 : decode cL_isHoliday 3 = .ok (.iload_n 1, 1) := by decide +kernel
theorem dL_isHoliday_4 : decode cL_isHoliday 4 = .ok (.invokevirtual 58, 3) := by decide +kernel
theorem dL_isHoliday_7 : decode cL_isHoliday 7 = .ok (.i2l, 1) := by decide +kernel
theorem dL_isHoliday_8 : decode cL_isHoliday 8 = .ok (.lastore, 1) := by decide +kernel
theorem dL_isHoliday_9 : decode cL_isHoliday 9 = .ok (.goto 9, 3) := by decide +kernel
theorem dL_isHoliday_12 : decode cL_isHoliday 12 = .ok (.astore_n 3, 1) := by decide +kernel
theorem dL_isHoliday_13 : decode cL_isHoliday 13 = .ok (.iconst 1, 1) := by decide +kernel
theorem dL_isHoliday_14 : decode cL_isHoliday 14 = .ok (.ireturn, 1) := by decide +kernel
theorem dL_isHoliday_15 : decode cL_isHoliday 15 = .ok (.astore_n 3, 1) := by decide +kernel
theorem dL_isHoliday_16 : decode cL_isHoliday 16 = .ok (.iconst 2, 1) := by decide +kernel
theorem dL_isHoliday_17 : decode cL_isHoliday 17 = .ok (.ireturn, 1) := by decide +kernel
theorem dL_isHoliday_18 : decode cL_isHoliday 18 = .ok (.iconst 0, 1) := by decide +kernel
theorem dL_isHoliday_19 : decode cL_isHoliday 19 = .ok (.ireturn, 1) := by decide +kernel
theorem dL_work_0 : decode cL_work 0 = .ok (.aload_n 3, 1) := by decide +kernel
theorem dL_work_1 : decode cL_work 1 = .ok (.iconst 0, 1) := by decide +kernel
theorem dL_work_2 : decode cL_work 2 = .ok (.aload_n 0, 1) := by decide +kernel
theorem dL_work_3 : decode cL_work 3 = .ok (.iload_n 1, 1) := by decide +kernel
theorem dL_work_4 : decode cL_work 4 = .ok (.iload_n 2, 1) := by decide +kernel
theorem dL_work_5 : decode cL_work 5 = .ok (.invokevirtual 61, 3) := by decide +kernel
theorem dL_work_8 : decode cL_work 8 = .ok (.i2l, 1) := by decide +kernel
theorem dL_work_9 : decode cL_work 9 = .ok (.lastore, 1) := by decide +kernel
theorem dL_work_10 : decode cL_work 10 = .ok (.goto 15, 3) := by decide +kernel
theorem dL_work_13 : decode cL_work 13 = .ok (.astore 4, 2) := by decide +kernel
theorem dL_work_15 : decode cL_work 15 = .ok (.iconst 1, 1) := by decide +kernel
theorem dL_work_16 : decode cL_work 16 = .ok (.ireturn, 1) := by decide +kernel
theorem dL_work_17 : decode cL_work 17 = .ok (.astore 4, 2) := by decide +kernel
theorem dL_work_19 : decode cL_work 19 = .ok (.iconst 2, 1) := by decide +kernel
theorem dL_work_20 : decode cL_work 20 = .ok (.ireturn, 1) := by decide +kernel
theorem dL_work_21 : decode cL_work 21 = .ok (.astore 4, 2) := by decide +kernel
theorem dL_work_23 : decode cL_work 23 = .ok (.iconst 3, 1) := by decide +kernel
theorem dL_work_24 : decode cL_work 24 = .ok (.ireturn, 1) := by decide +kernel
theorem dL_work_25 : decode cL_work 25 = .ok (.iconst 0, 1) := by decide +kernel
theorem dL_work_26 : decode cL_work 26 = .ok (.ireturn, 1) := by decide +kernel
theorem dL_moveWork_0 : decode cL_moveWork 0 = .ok (.aload_n 3, 1) := by decide +kernel
theorem dL_moveWork_1 : decode cL_moveWork 1 = .ok (.iconst 0, 1) := by decide +kernel
theorem dL_moveWork_2 : decode cL_moveWork 2 = .ok (.aload_n 0, 1) := by decide +kernel
theorem dL_moveWork_3 : decode cL_moveWork 3 = .ok (.iload_n 1, 1) := by decide +kernel
theorem dL_moveWork_4 : decode cL_moveWork 4 = .ok (.iload_n 2, 1) := by decide +kernel
theorem dL_moveWork_5 : decode cL_moveWork 5 = .ok (.invokevirtual 64, 3) := by decide +kernel
theorem dL_moveWork_8 : decode cL_moveWork 8 = .ok (.i2l, 1) := by decide +kernel
theorem dL_moveWork_9 : decode cL_moveWork 9 = .ok (.lastore, 1) := by decide +kernel
theorem dL_moveWork_10 : decode cL_moveWork 10 = .ok (.goto 19, 3) := by decide +kernel
theorem dL_moveWork_13 : decode cL_moveWork 13 = .ok (.astore 4, 2) := by decide +kernel
theorem dL_moveWork_15 : decode cL_moveWork 15 = .ok (.iconst 1, 1) := by decide +kernel
theorem dL_moveWork_16 : decode cL_moveWork 16 = .ok (.ireturn, 1) := by decide +kernel
theorem dL_moveWork_17 : decode cL_moveWork 17 = .ok (.astore 4, 2) := by decide +kernel
theorem dL_moveWork_19 : decode cL_moveWork 19 = .ok (.iconst 2, 1) := by decide +kernel
theorem dL_moveWork_20 : decode cL_moveWork 20 = .ok (.ireturn, 1) := by decide +kernel
theorem dL_moveWork_21 : decode cL_moveWork 21 = .ok (.astore 4, 2) := by decide +kernel
theorem dL_moveWork_23 : decode cL_moveWork 23 = .ok (.iconst 3, 1) := by decide +kernel
theorem dL_moveWork_24 : decode cL_moveWork 24 = .ok (.ireturn, 1) := by decide +kernel
theorem dL_moveWork_25 : decode cL_moveWork 25 = .ok (.astore 4, 2) := by decide +kernel
theorem dL_moveWork_27 : decode cL_moveWork 27 = .ok (.iconst 4, 1) := by decide +kernel
theorem dL_moveWork_28 : decode cL_moveWork 28 = .ok (.ireturn, 1) := by decide +kernel
theorem dL_moveWork_29 : decode cL_moveWork 29 = .ok (.iconst 0, 1) := by decide +kernel
theorem dL_moveWork_30 : decode cL_moveWork 30 = .ok (.ireturn, 1) := by decide +kernel
theorem dL_write_0 : decode cL_write 0 = .ok (.aload_n 3, 1) := by decide +kernel
theorem dL_write_1 : decode cL_write 1 = .ok (.iconst 0, 1) := by decide +kernel
theorem dL_write_2 : decode cL_write 2 = .ok (.aload_n 0, 1) := by decide +kernel
theorem dL_write_3 : decode cL_write 3 = .ok (.iload_n 1, 1) := by decide +kernel
theorem dL_write_4 : decode cL_write 4 = .ok (.iload_n 2, 1) := by decide +kernel
theorem dL_write_5 : decode cL_write 5 = .ok (.invokevirtual 67, 3) := by decide +kernel
theorem dL_write_8 : decode cL_write 8 = .ok (.i2l, 1) := by decide +kernel
theorem dL_write_9 : decode cL_write 9 = .ok (.lastore, 1) := by decide +kernel
theorem dL_write_10 : decode cL_write 10 = .ok (.goto 15, 3) := by decide +kernel
theorem dL_write_13 : decode cL_write 13 = .ok (.astore 4, 2) := by decide +kernel
theorem dL_write_15 : decode cL_write 15 = .ok (.iconst 1, 1) := by decide +kernel
theorem dL_write_16 : decode cL_write 16 = .ok (.ireturn, 1) := by decide +kernel
theorem dL_write_17 : decode cL_write 17 = .ok (.astore 4, 2) := by decide +kernel
theorem dL_write_19 : decode cL_write 19 = .ok (.iconst 2, 1) := by decide +kernel
theorem dL_write_20 : decode cL_write 20 = .ok (.ireturn, 1) := by decide +kernel
theorem dL_write_21 : decode cL_write 21 = .ok (.astore 4, 2) := by decide +kernel
theorem dL_write_23 : decode cL_write 23 = .ok (.iconst 3, 1) := by decide +kernel
theorem dL_write_24 : decode cL_write 24 = .ok (.ireturn, 1) := by decide +kernel
theorem dL_write_25 : decode cL_write 25 = .ok (.iconst 0, 1) := by decide +kernel
theorem dL_write_26 : decode cL_write 26 = .ok (.ireturn, 1) := by decide +kernel
theorem dL_charAt_0 : decode cL_charAt 0 = .ok (.aload_n 2, 1) := by decide +kernel
theorem dL_charAt_1 : decode cL_charAt 1 = .ok (.iconst 0, 1) := by decide +kernel
theorem dL_charAt_2 : decode cL_charAt 2 = .ok (.aload_n 0, 1) := by decide +kernel
theorem dL_charAt_3 : decode cL_charAt 3 = .ok (.iload_n 1, 1) := by decide +kernel
theorem dL_charAt_4 : decode cL_charAt 4 = .ok (.invokevirtual 70, 3) := by decide +kernel
theorem dL_charAt_7 : decode cL_charAt 7 = .ok (.i2l, 1) := by decide +kernel
theorem dL_charAt_8 : decode cL_charAt 8 = .ok (.lastore, 1) := by decide +kernel
theorem dL_charAt_9 : decode cL_charAt 9 = .ok (.goto 6, 3) := by decide +kernel
theorem dL_charAt_12 : decode cL_charAt 12 = .ok (.astore_n 3, 1) := by decide +kernel
theorem dL_charAt_13 : decode cL_charAt 13 = .ok (.iconst 1, 1) := by decide +kernel
theorem dL_charAt_14 : decode cL_charAt 14 = .ok (.ireturn, 1) := by decide +kernel
theorem dL_charAt_15 : decode cL_charAt 15 = .ok (.iconst 0, 1) := by decide +kernel
theorem dL_charAt_16 : decode cL_charAt 16 = .ok (.ireturn, 1) := by decide +kernel
theorem dL_type_0 : decode cL_type 0 = .ok (.aload_n 2, 1) := by decide +kernel
theorem dL_type_1 : decode cL_type 1 = .ok (.iconst 0, 1) := by decide +kernel
theorem dL_type_2 : decode cL_type 2 = .ok (.aload_n 0, 1) := by decide +kernel
theorem dL_type_3 : decode cL_type 3 = .ok (.iload_n 1, 1) := by decide +kernel
theorem dL_type_4 : decode cL_type 4 = .ok (.invokevirtual 73, 3) := by decide +kernel
theorem dL_type_7 : decode cL_type 7 = .ok (.i2l, 1) := by decide +kernel
theorem dL_type_8 : decode cL_type 8 = .ok (.lastore, 1) := by decide +kernel
theorem dL_type_9 : decode cL_type 9 = .ok (.goto 9, 3) := by decide +kernel
theorem dL_type_12 : decode cL_type 12 = .ok (.astore_n 3, 1) := by decide +kernel
theorem dL_type_13 : decode cL_type 13 = .ok (.iconst 1, 1) := by decide +kernel
theorem dL_type_14 : decode cL_type 14 = .ok (.ireturn, 1) := by decide +kernel
theorem dL_type_15 : decode cL_type 15 = .ok (.astore_n 3, 1) := by decide +kernel
theorem dL_type_16 : decode cL_type 16 = .ok (.iconst 2, 1) := by decide +kernel
theorem dL_type_17 : decode cL_type 17 = .ok (.ireturn, 1) := by decide +kernel
theorem dL_type_18 : decode cL_type 18 = .ok (.iconst 0, 1) := by decide +kernel
theorem dL_type_19 : decode cL_type 19 = .ok (.ireturn, 1) := by decide +kernel
theorem dL_read_0 : decode cL_read 0 = .ok (.aload_n 2, 1) := by decide +kernel
theorem dL_read_1 : decode cL_read 1 = .ok (.iconst 0, 1) := by decide +kernel
theorem dL_read_2 : decode cL_read 2 = .ok (.aload_n 0, 1) := by decide +kernel
