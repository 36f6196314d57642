theorem dX0_isNumber_0 : decode cX0_isNumber 0 = .ok (.lload_n 0, 1) := by decide +kernel
theorem dX0_isNumber_1 : decode cX0_isNumber 1 = .ok (.lconst 0, 1) := by decide +kernel
theorem dX0_isNumber_2 : decode cX0_isNumber 2 = .ok (.lcmp, 1) := by decide +kernel
theorem dX0_isNumber_3 : decode cX0_isNumber 3 = .ok (.ifCond .lt 15, 3) := by decide +kernel
theorem dX0_isNumber_6 : decode cX0_isNumber 6 = .ok (.lload_n 0, 1) := by decide +kernel
theorem dX0_isNumber_7 : decode cX0_isNumber 7 = .ok (.ldc2_w 11, 3) := by decide +kernel
theorem dX0_isNumber_10 : decode cX0_isNumber 10 = .ok (.lcmp, 1) := by decide +kernel
theorem dX0_isNumber_11 : decode cX0_isNumber 11 = .ok (.ifCond .gt 7, 3) := by decide +kernel
theorem dX0_isNumber_14 : decode cX0_isNumber 14 = .ok (.iconst 1, 1) := by decide +kernel
theorem dX0_isNumber_15 : decode cX0_isNumber 15 = .ok (.goto 4, 3) := by decide +kernel
theorem dX0_isNumber_18 : decode cX0_isNumber 18 = .ok (.iconst 0, 1) := by decide +kernel
theorem dX0_isNumber_19 : decode cX0_isNumber 19 = .ok (.ireturn, 1) := by decide +kernel
theorem dX0_isYear_0 : decode cX0_isYear 0 = .ok (.iload_n 0, 1) := by decide +kernel
theorem dX0_isYear_1 : decode cX0_isYear 1 = .ok (.iconst 1, 1) := by decide +kernel
theorem dX0_isYear_2 : decode cX0_isYear 2 = .ok (.if_icmp .lt 14, 3) := by decide +kernel
theorem dX0_isYear_5 : decode cX0_isYear 5 = .ok (.iload_n 0, 1) := by decide +kernel
theorem dX0_isYear_6 : decode cX0_isYear 6 = .ok (.sipush 9999, 3) := by decide +kernel
theorem dX0_isYear_9 : decode cX0_isYear 9 = .ok (.if_icmp .gt 7, 3) := by decide +kernel
theorem dX0_isYear_12 : decode cX0_isYear 12 = .ok (.iconst 1, 1) := by decide +kernel
theorem dX0_isYear_13 : decode cX0_isYear 13 = .ok (.goto 4, 3) := by decide +kernel
theorem dX0_isYear_16 : decode cX0_isYear 16 = .ok (.iconst 0, 1) := by decide +kernel
theorem dX0_isYear_17 : decode cX0_isYear 17 = .ok (.ireturn, 1) := by decide +kernel
theorem dX0_isMonth_0 : decode cX0_isMonth 0 = .ok (.iload_n 0, 1) := by decide +kernel
theorem dX0_isMonth_1 : decode cX0_isMonth 1 = .ok (.iconst 1, 1) := by decide +kernel
theorem dX0_isMonth_2 : decode cX0_isMonth 2 = .ok (.if_icmp .lt 13, 3) := by decide +kernel
theorem dX0_isMonth_5 : decode cX0_isMonth 5 = .ok (.iload_n 0, 1) := by decide +kernel
theorem dX0_isMonth_6 : decode cX0_isMonth 6 = .ok (.bipush 12, 2) := by decide +kernel
theorem dX0_isMonth_8 : decode cX0_isMonth 8 = .ok (.if_icmp .gt 7, 3) := by decide +kernel
theorem dX0_isMonth_11 : decode cX0_isMonth 11 = .ok (.iconst 1, 1) := by decide +kernel
theorem dX0_isMonth_12 : decode cX0_isMonth 12 = .ok (.goto 4, 3) := by decide +kernel
theorem dX0_isMonth_15 : decode cX0_isMonth 15 = .ok (.iconst 0, 1) := by decide +kernel
theorem dX0_isMonth_16 : decode cX0_isMonth 16 = .ok (.ireturn, 1) := by decide +kernel
theorem dX0_isWeekday_0 : decode cX0_isWeekday 0 = .ok (.iload_n 0, 1) := by decide +kernel
theorem dX0_isWeekday_1 : decode cX0_isWeekday 1 = .ok (.iconst 1, 1) := by decide +kernel
theorem dX0_isWeekday_2 : decode cX0_isWeekday 2 = .ok (.if_icmp .lt 13, 3) := by decide +kernel
theorem dX0_isWeekday_5 : decode cX0_isWeekday 5 = .ok (.iload_n 0, 1) := by decide +kernel
theorem dX0_isWeekday_6 : decode cX0_isWeekday 6 = .ok (.bipush 7, 2) := by decide +kernel
theorem dX0_isWeekday_8 : decode cX0_isWeekday 8 = .ok (.if_icmp .gt 7, 3) := by decide +kernel
theorem dX0_isWeekday_11 : decode cX0_isWeekday 11 = .ok (.iconst 1, 1) := by decide +kernel
theorem dX0_isWeekday_12 : decode cX0_isWeekday 12 = .ok (.goto 4, 3) := by decide +kernel
theorem dX0_isWeekday_15 : decode cX0_isWeekday 15 = .ok (.iconst 0, 1) := by decide +kernel
theorem dX0_isWeekday_16 : decode cX0_isWeekday 16 = .ok (.ireturn, 1) := by decide +kernel
theorem dX0_isLeap_0 : decode cX0_isLeap 0 = .ok (.iload_n 0, 1) := by decide +kernel
theorem dX0_isLeap_1 : decode cX0_isLeap 1 = .ok (.iconst 4, 1) := by decide +kernel
theorem dX0_isLeap_2 : decode cX0_isLeap 2 = .ok (.irem, 1) := by decide +kernel
theorem dX0_isLeap_3 : decode cX0_isLeap 3 = .ok (.ifCond .ne 22, 3) := by decide +kernel
theorem dX0_isLeap_6 : decode cX0_isLeap 6 = .ok (.iload_n 0, 1) := by decide +kernel
theorem dX0_isLeap_7 : decode cX0_isLeap 7 = .ok (.bipush 100, 2) := by decide +kernel
theorem dX0_isLeap_9 : decode cX0_isLeap 9 = .ok (.irem, 1) := by decide +kernel
theorem dX0_isLeap_10 : decode cX0_isLeap 10 = .ok (.ifCond .ne 11, 3) := by decide +kernel
theorem dX0_isLeap_13 : decode cX0_isLeap 13 = .ok (.iload_n 0, 1) := by decide +kernel
theorem dX0_isLeap_14 : decode cX0_isLeap 14 = .ok (.sipush 400, 3) := by decide +kernel
theorem dX0_isLeap_17 : decode cX0_isLeap 17 = .ok (.irem, 1) := by decide +kernel
theorem dX0_isLeap_18 : decode cX0_isLeap 18 = .ok (.ifCond .ne 7, 3) := by decide +kernel
theorem dX0_isLeap_21 : decode cX0_isLeap 21 = .ok (.iconst 1, 1) := by decide +kernel
theorem dX0_isLeap_22 : decode cX0_isLeap 22 = .ok (.goto 4, 3) := by decide +kernel
theorem dX0_isLeap_25 : decode cX0_isLeap 25 = .ok (.iconst 0, 1) := by decide +kernel
theorem dX0_isLeap_26 : decode cX0_isLeap 26 = .ok (.ireturn, 1) := by decide +kernel
theorem dX0_yearLength_0 : decode cX0_yearLength 0 = .ok (.iload_n 0, 1) := by decide +kernel
theorem dX0_yearLength_1 : decode cX0_yearLength 1 = .ok (.invokestatic 13, 3) := by decide +kernel
theorem dX0_yearLength_4 : decode cX0_yearLength 4 = .ok (.ifCond .eq 9, 3) := by decide +kernel
theorem dX0_yearLength_7 : decode cX0_yearLength 7 = .ok (.sipush 366, 3) := by decide +kernel
theorem dX0_yearLength_10 : decode cX0_yearLength 10 = .ok (.goto 6, 3) := by decide +kernel
theorem dX0_yearLength_13 : decode cX0_yearLength 13 = .ok (.sipush 365, 3) := by decide +kernel
theorem dX0_yearLength_16 : decode cX0_yearLength 16 = .ok (.ireturn, 1) := by decide +kernel
theorem dX0_monthLength_0 : decode cX0_monthLength 0 = .ok (.iload_n 1, 1) := by decide +kernel
theorem dX0_monthLength_1 : decode cX0_monthLength 1 = .ok (.iconst 2, 1) := by decide +kernel
theorem dX0_monthLength_2 : decode cX0_monthLength 2 = .ok (.if_icmp .ne 18, 3) := by decide +kernel
theorem dX0_monthLength_5 : decode cX0_monthLength 5 = .ok (.iload_n 0, 1) := by decide +kernel
theorem dX0_monthLength_6 : decode cX0_monthLength 6 = .ok (.invokestatic 13, 3) := by decide +kernel
theorem dX0_monthLength_9 : decode cX0_monthLength 9 = .ok (.ifCond .eq 8, 3) := by decide +kernel
theorem dX0_monthLength_12 : decode cX0_monthLength 12 = .ok (.bipush 29, 2) := by decide +kernel
theorem dX0_monthLength_14 : decode cX0_monthLength 14 = .ok (.goto 5, 3) := by decide +kernel
theorem dX0_monthLength_17 : decode cX0_monthLength 17 = .ok (.bipush 28, 2) := by decide +kernel
theorem dX0_monthLength_19 : decode cX0_monthLength 19 = .ok (.ireturn, 1) := by decide +kernel
theorem dX0_monthLength_20 : decode cX0_monthLength 20 = .ok (.iload_n 1, 1) := by decide +kernel
theorem dX0_monthLength_21 : decode cX0_monthLength 21 = .ok (.iconst 4, 1) := by decide +kernel
theorem dX0_monthLength_22 : decode cX0_monthLength 22 = .ok (.if_icmp .eq 21, 3) := by decide +kernel
theorem dX0_monthLength_25 : decode cX0_monthLength 25 = .ok (.iload_n 1, 1) := by decide +kernel
theorem dX0_monthLength_26 : decode cX0_monthLength 26 = .ok (.bipush 6, 2) := by decide +kernel
theorem dX0_monthLength_28 : decode cX0_monthLength 28 = .ok (.if_icmp .eq 15, 3) := by decide +kernel
theorem dX0_monthLength_31 : decode cX0_monthLength 31 = .ok (.iload_n 1, 1) := by decide +kernel
theorem dX0_monthLength_32 : decode cX0_monthLength 32 = .ok (.bipush 9, 2) := by decide +kernel
theorem dX0_monthLength_34 : decode cX0_monthLength 34 = .ok (.if_icmp .eq 9, 3) := by decide +kernel
theorem dX0_monthLength_37 : decode cX0_monthLength 37 = .ok (.iload_n 1, 1) := by decide +kernel
theorem dX0_monthLength_38 : decode cX0_monthLength 38 = .ok (.bipush 11, 2) := by decide +kernel
theorem dX0_monthLength_40 : decode cX0_monthLength 40 = .ok (.if_icmp .ne 8, 3) := by decide +kernel
theorem dX0_monthLength_43 : decode cX0_monthLength 43 = .ok (.bipush 30, 2) := by decide +kernel
theorem dX0_monthLength_45 : decode cX0_monthLength 45 = .ok (.goto 5, 3) := by decide +kernel
theorem dX0_monthLength_48 : decode cX0_monthLength 48 = .ok (.bipush 31, 2) := by decide +kernel
theorem dX0_monthLength_50 : decode cX0_monthLength 50 = .ok (.ireturn, 1) := by decide +kernel
theorem dX0_yearStart_0 : decode cX0_yearStart 0 = .ok (.iload_n 0, 1) := by decide +kernel
theorem dX0_yearStart_1 : decode cX0_yearStart 1 = .ok (.iconst 1, 1) := by decide +kernel
theorem dX0_yearStart_2 : decode cX0_yearStart 2 = .ok (.isub, 1) := by decide +kernel
theorem dX0_yearStart_3 : decode cX0_yearStart 3 = .ok (.istore_n 1, 1) := by decide +kernel
theorem dX0_yearStart_4 : decode cX0_yearStart 4 = .ok (.sipush 365, 3) := by decide +kernel
theorem dX0_yearStart_7 : decode cX0_yearStart 7 = .ok (.iload_n 1, 1) := by decide +kernel
theorem dX0_yearStart_8 : decode cX0_yearStart 8 = .ok (.imul, 1) := by decide +kernel
theorem dX0_yearStart_9 : decode cX0_yearStart 9 = .ok (.iload_n 1, 1) := by decide +kernel
theorem dX0_yearStart_10 : decode cX0_yearStart 10 = .ok (.iconst 4, 1) := by decide +kernel
theorem dX0_yearStart_11 : decode cX0_yearStart 11 = .ok (.idiv, 1) := by decide +kernel
theorem dX0_yearStart_12 : decode cX0_yearStart 12 = .ok (.iadd, 1) := by decide +kernel
theorem dX0_yearStart_13 : decode cX0_yearStart 13 = .ok (.iload_n 1, 1) := by decide +kernel
theorem dX0_yearStart_14 : decode cX0_yearStart 14 = .ok (.bipush 100, 2) := by decide +kernel
theorem dX0_yearStart_16 : decode cX0_yearStart 16 = .ok (.idiv, 1) := by decide +kernel
theorem dX0_yearStart_17 : decode cX0_yearStart 17 = .ok (.isub, 1) := by decide +kernel
theorem dX0_yearStart_18 : decode cX0_yearStart 18 = .ok (.iload_n 1, 1) := by decide +kernel
theorem dX0_yearStart_19 : decode cX0_yearStart 19 = .ok (.sipush 400, 3) := by decide +kernel
theorem dX0_yearStart_22 : decode cX0_yearStart 22 = .ok (.idiv, 1) := by decide +kernel
theorem dX0_yearStart_23 : decode cX0_yearStart 23 = .ok (.iadd, 1) := by decide +kernel
theorem dX0_yearStart_24 : decode cX0_yearStart 24 = .ok (.ireturn, 1) := by decide +kernel
theorem dX0_monthStart_0 : decode cX0_monthStart 0 = .ok (.sipush 367, 3) := by decide +kernel
theorem dX0_monthStart_3 : decode cX0_monthStart 3 = .ok (.iload_n 1, 1) := by decide +kernel
theorem dX0_monthStart_4 : decode cX0_monthStart 4 = .ok (.imul, 1) := by decide +kernel
theorem dX0_monthStart_5 : decode cX0_monthStart 5 = .ok (.sipush 362, 3) := by decide +kernel
theorem dX0_monthStart_8 : decode cX0_monthStart 8 = .ok (.isub, 1) := by decide +kernel
theorem dX0_monthStart_9 : decode cX0_monthStart 9 = .ok (.bipush 12, 2) := by decide +kernel
theorem dX0_monthStart_11 : decode cX0_monthStart 11 = .ok (.idiv, 1) := by decide +kernel
theorem dX0_monthStart_12 : decode cX0_monthStart 12 = .ok (.istore_n 2, 1) := by decide +kernel
theorem dX0_monthStart_13 : decode cX0_monthStart 13 = .ok (.iload_n 1, 1) := by decide +kernel
theorem dX0_monthStart_14 : decode cX0_monthStart 14 = .ok (.iconst 2, 1) := by decide +kernel
theorem dX0_monthStart_15 : decode cX0_monthStart 15 = .ok (.if_icmp .le 18, 3) := by decide +kernel
theorem dX0_monthStart_18 : decode cX0_monthStart 18 = .ok (.iload_n 2, 1) := by decide +kernel
theorem dX0_monthStart_19 : decode cX0_monthStart 19 = .ok (.iload_n 0, 1) := by decide +kernel
theorem dX0_monthStart_20 : decode cX0_monthStart 20 = .ok (.invokestatic 13, 3) := by decide +kernel
theorem dX0_monthStart_23 : decode cX0_monthStart 23 = .ok (.ifCond .eq 7, 3) := by decide +kernel
theorem dX0_monthStart_26 : decode cX0_monthStart 26 = .ok (.iconst 1, 1) := by decide +kernel
theorem dX0_monthStart_27 : decode cX0_monthStart 27 = .ok (.goto 4, 3) := by decide +kernel
theorem dX0_monthStart_30 : decode cX0_monthStart 30 = .ok (.iconst 2, 1) := by decide +kernel
theorem dX0_monthStart_31 : decode cX0_monthStart 31 = .ok (.isub, 1) := by decide +kernel
theorem dX0_monthStart_32 : decode cX0_monthStart 32 = .ok (.istore_n 2, 1) := by decide +kernel
theorem dX0_monthStart_33 : decode cX0_monthStart 33 = .ok (.iload_n 0, 1) := by decide +kernel
theorem dX0_monthStart_34 : decode cX0_monthStart 34 = .ok (.invokestatic 17, 3) := by decide +kernel
theorem dX0_monthStart_37 : decode cX0_monthStart 37 = .ok (.iload_n 2, 1) := by decide +kernel
theorem dX0_monthStart_38 : decode cX0_monthStart 38 = .ok (.iadd, 1) := by decide +kernel
theorem dX0_monthStart_39 : decode cX0_monthStart 39 = .ok (.ireturn, 1) := by decide +kernel
theorem dX0_firstMonday_0 : decode cX0_firstMonday 0 = .ok (.iload_n 0, 1) := by decide +kernel
theorem dX0_firstMonday_1 : decode cX0_firstMonday 1 = .ok (.invokestatic 17, 3) := by decide +kernel
theorem dX0_firstMonday_4 : decode cX0_firstMonday 4 = .ok (.iconst 3, 1) := by decide +kernel
theorem dX0_firstMonday_5 : decode cX0_firstMonday 5 = .ok (.iadd, 1) := by decide +kernel
theorem dX0_firstMonday_6 : decode cX0_firstMonday 6 = .ok (.istore_n 1, 1) := by decide +kernel
theorem dX0_firstMonday_7 : decode cX0_firstMonday 7 = .ok (.iload_n 1, 1) := by decide +kernel
theorem dX0_firstMonday_8 : decode cX0_firstMonday 8 = .ok (.iload_n 1, 1) := by decide +kernel
theorem dX0_firstMonday_9 : decode cX0_firstMonday 9 = .ok (.bipush 7, 2) := by decide +kernel
theorem dX0_firstMonday_11 : decode cX0_firstMonday 11 = .ok (.irem, 1) := by decide +kernel
theorem dX0_firstMonday_12 : decode cX0_firstMonday 12 = .ok (.isub, 1) := by decide +kernel
theorem dX0_firstMonday_13 : decode cX0_firstMonday 13 = .ok (.ireturn, 1) := by decide +kernel
theorem dX0_weeksIn_0 : decode cX0_weeksIn 0 = .ok (.iload_n 0, 1) := by decide +kernel
theorem dX0_weeksIn_1 : decode cX0_weeksIn 1 = .ok (.iconst 1, 1) := by decide +kernel
theorem dX0_weeksIn_2 : decode cX0_weeksIn 2 = .ok (.iadd, 1) := by decide +kernel
theorem dX0_weeksIn_3 : decode cX0_weeksIn 3 = .ok (.invokestatic 21, 3) := by decide +kernel
theorem dX0_weeksIn_6 : decode cX0_weeksIn 6 = .ok (.iload_n 0, 1) := by decide +kernel
theorem dX0_weeksIn_7 : decode cX0_weeksIn 7 = .ok (.invokestatic 21, 3) := by decide +kernel
theorem dX0_weeksIn_10 : decode cX0_weeksIn 10 = .ok (.isub, 1) := by decide +kernel
theorem dX0_weeksIn_11 : decode cX0_weeksIn 11 = .ok (.bipush 7, 2) := by decide +kernel
theorem dX0_weeksIn_13 : decode cX0_weeksIn 13 = .ok (.idiv, 1) := by decide +kernel
theorem dX0_weeksIn_14 : decode cX0_weeksIn 14 = .ok (.ireturn, 1) := by decide +kernel
theorem dX0_civilNumber_0 : decode cX0_civilNumber 0 = .ok (.iload_n 0, 1) := by decide +kernel
theorem dX0_civilNumber_1 : decode cX0_civilNumber 1 = .ok (.invokestatic 24, 3) := by decide +kernel
theorem dX0_civilNumber_4 : decode cX0_civilNumber 4 = .ok (.ifCond .eq 24, 3) := by decide +kernel
theorem dX0_civilNumber_7 : decode cX0_civilNumber 7 = .ok (.iload_n 1, 1) := by decide +kernel
theorem dX0_civilNumber_8 : decode cX0_civilNumber 8 = .ok (.invokestatic 27, 3) := by decide +kernel
theorem dX0_civilNumber_11 : decode cX0_civilNumber 11 = .ok (.ifCond .eq 17, 3) := by decide +kernel
theorem dX0_civilNumber_14 : decode cX0_civilNumber 14 = .ok (.iload_n 2, 1) := by decide +kernel
theorem dX0_civilNumber_15 : decode cX0_civilNumber 15 = .ok (.iconst 1, 1) := by decide +kernel
theorem dX0_civilNumber_16 : decode cX0_civilNumber 16 = .ok (.if_icmp .lt 12, 3) := by decide +kernel
theorem dX0_civilNumber_19 : decode cX0_civilNumber 19 = .ok (.iload_n 2, 1) := by decide +kernel
theorem dX0_civilNumber_20 : decode cX0_civilNumber 20 = .ok (.iload_n 0, 1) := by decide +kernel
theorem dX0_civilNumber_21 : decode cX0_civilNumber 21 = .ok (.iload_n 1, 1) := by decide +kernel
theorem dX0_civilNumber_22 : decode cX0_civilNumber 22 = .ok (.invokestatic 30, 3) := by decide +kernel
theorem dX0_civilNumber_25 : decode cX0_civilNumber 25 = .ok (.if_icmp .le 5, 3) := by decide +kernel
theorem dX0_civilNumber_28 : decode cX0_civilNumber 28 = .ok (.iconst (-1), 1) := by decide +kernel
theorem dX0_civilNumber_29 : decode cX0_civilNumber 29 = .ok (.ireturn, 1) := by decide +kernel
theorem dX0_civilNumber_30 : decode cX0_civilNumber 30 = .ok (.iload_n 0, 1) := by decide +kernel
theorem dX0_civilNumber_31 : decode cX0_civilNumber 31 = .ok (.iload_n 1, 1) := by decide +kernel
theorem dX0_civilNumber_32 : decode cX0_civilNumber 32 = .ok (.invokestatic 34, 3) := by decide +kernel
theorem dX0_civilNumber_35 : decode cX0_civilNumber 35 = .ok (.iload_n 2, 1) := by decide +kernel
theorem dX0_civilNumber_36 : decode cX0_civilNumber 36 = .ok (.iadd, 1) := by decide +kernel
theorem dX0_civilNumber_37 : decode cX0_civilNumber 37 = .ok (.iconst 1, 1) := by decide +kernel
theorem dX0_civilNumber_38 : decode cX0_civilNumber 38 = .ok (.isub, 1) := by decide +kernel
theorem dX0_civilNumber_39 : decode cX0_civilNumber 39 = .ok (.ireturn, 1) := by decide +kernel
theorem dX0_yearDayNumber_0 : decode cX0_yearDayNumber 0 = .ok (.iload_n 0, 1) := by decide +kernel
theorem dX0_yearDayNumber_1 : decode cX0_yearDayNumber 1 = .ok (.invokestatic 24, 3) := by decide +kernel
theorem dX0_yearDayNumber_4 : decode cX0_yearDayNumber 4 = .ok (.ifCond .eq 16, 3) := by decide +kernel
theorem dX0_yearDayNumber_7 : decode cX0_yearDayNumber 7 = .ok (.iload_n 1, 1) := by decide +kernel
theorem dX0_yearDayNumber_8 : decode cX0_yearDayNumber 8 = .ok (.iconst 1, 1) := by decide +kernel
theorem dX0_yearDayNumber_9 : decode cX0_yearDayNumber 9 = .ok (.if_icmp .lt 11, 3) := by decide +kernel
theorem dX0_yearDayNumber_12 : decode cX0_yearDayNumber 12 = .ok (.iload_n 1, 1) := by decide +kernel
theorem dX0_yearDayNumber_13 : decode cX0_yearDayNumber 13 = .ok (.iload_n 0, 1) := by decide +kernel
theorem dX0_yearDayNumber_14 : decode cX0_yearDayNumber 14 = .ok (.invokestatic 37, 3) := by decide +kernel
theorem dX0_yearDayNumber_17 : decode cX0_yearDayNumber 17 = .ok (.if_icmp .le 5, 3) := by decide +kernel
theorem dX0_yearDayNumber_20 : decode cX0_yearDayNumber 20 = .ok (.iconst (-1), 1) := by decide +kernel
theorem dX0_yearDayNumber_21 : decode cX0_yearDayNumber 21 = .ok (.ireturn, 1) := by decide +kernel
theorem dX0_yearDayNumber_22 : decode cX0_yearDayNumber 22 = .ok (.iload_n 0, 1) := by decide +kernel
theorem dX0_yearDayNumber_23 : decode cX0_yearDayNumber 23 = .ok (.invokestatic 17, 3) := by decide +kernel
theorem dX0_yearDayNumber_26 : decode cX0_yearDayNumber 26 = .ok (.iload_n 1, 1) := by decide +kernel
theorem dX0_yearDayNumber_27 : decode cX0_yearDayNumber 27 = .ok (.iadd, 1) := by decide +kernel
theorem dX0_yearDayNumber_28 : decode cX0_yearDayNumber 28 = .ok (.iconst 1, 1) := by decide +kernel
theorem dX0_yearDayNumber_29 : decode cX0_yearDayNumber 29 = .ok (.isub, 1) := by decide +kernel
theorem dX0_yearDayNumber_30 : decode cX0_yearDayNumber 30 = .ok (.ireturn, 1) := by decide +kernel
theorem dX0_weekNumber_0 : decode cX0_weekNumber 0 = .ok (.iload_n 0, 1) := by decide +kernel
theorem dX0_weekNumber_1 : decode cX0_weekNumber 1 = .ok (.invokestatic 24, 3) := by decide +kernel
theorem dX0_weekNumber_4 : decode cX0_weekNumber 4 = .ok (.ifCond .eq 23, 3) := by decide +kernel
theorem dX0_weekNumber_7 : decode cX0_weekNumber 7 = .ok (.iload_n 2, 1) := by decide +kernel
theorem dX0_weekNumber_8 : decode cX0_weekNumber 8 = .ok (.invokestatic 40, 3) := by decide +kernel
theorem dX0_weekNumber_11 : decode cX0_weekNumber 11 = .ok (.ifCond .eq 16, 3) := by decide +kernel
theorem dX0_weekNumber_14 : decode cX0_weekNumber 14 = .ok (.iload_n 1, 1) := by decide +kernel
theorem dX0_weekNumber_15 : decode cX0_weekNumber 15 = .ok (.iconst 1, 1) := by decide +kernel
theorem dX0_weekNumber_16 : decode cX0_weekNumber 16 = .ok (.if_icmp .lt 11, 3) := by decide +kernel
theorem dX0_weekNumber_19 : decode cX0_weekNumber 19 = .ok (.iload_n 1, 1) := by decide +kernel
theorem dX0_weekNumber_20 : decode cX0_weekNumber 20 = .ok (.iload_n 0, 1) := by decide +kernel
theorem dX0_weekNumber_21 : decode cX0_weekNumber 21 = .ok (.invokestatic 43, 3) := by decide +kernel
theorem dX0_weekNumber_24 : decode cX0_weekNumber 24 = .ok (.if_icmp .le 5, 3) := by decide +kernel
theorem dX0_weekNumber_27 : decode cX0_weekNumber 27 = .ok (.iconst (-1), 1) := by decide +kernel
theorem dX0_weekNumber_28 : decode cX0_weekNumber 28 = .ok (.ireturn, 1) := by decide +kernel
theorem dX0_weekNumber_29 : decode cX0_weekNumber 29 = .ok (.iload_n 0, 1) := by decide +kernel
theorem dX0_weekNumber_30 : decode cX0_weekNumber 30 = .ok (.invokestatic 21, 3) := by decide +kernel
theorem dX0_weekNumber_33 : decode cX0_weekNumber 33 = .ok (.bipush 7, 2) := by decide +kernel
theorem dX0_weekNumber_35 : decode cX0_weekNumber 35 = .ok (.iload_n 1, 1) := by decide +kernel
theorem dX0_weekNumber_36 : decode cX0_weekNumber 36 = .ok (.iconst 1, 1) := by decide +kernel
theorem dX0_weekNumber_37 : decode cX0_weekNumber 37 = .ok (.isub, 1) := by decide +kernel
theorem dX0_weekNumber_38 : decode cX0_weekNumber 38 = .ok (.imul, 1) := by decide +kernel
theorem dX0_weekNumber_39 : decode cX0_weekNumber 39 = .ok (.iadd, 1) := by decide +kernel
theorem dX0_weekNumber_40 : decode cX0_weekNumber 40 = .ok (.iload_n 2, 1) := by decide +kernel
theorem dX0_weekNumber_41 : decode cX0_weekNumber 41 = .ok (.iadd, 1) := by decide +kernel
theorem dX0_weekNumber_42 : decode cX0_weekNumber 42 = .ok (.iconst 1, 1) := by decide +kernel
theorem dX0_weekNumber_43 : decode cX0_weekNumber 43 = .ok (.isub, 1) := by decide +kernel
theorem dX0_weekNumber_44 : decode cX0_weekNumber 44 = .ok (.istore_n 3, 1) := by decide +kernel
theorem dX0_weekNumber_45 : decode cX0_weekNumber 45 = .ok (.iload_n 3, 1) := by decide +kernel
theorem dX0_weekNumber_46 : decode cX0_weekNumber 46 = .ok (.i2l, 1) := by decide +kernel
theorem dX0_weekNumber_47 : decode cX0_weekNumber 47 = .ok (.invokestatic 46, 3) := by decide +kernel
theorem dX0_weekNumber_50 : decode cX0_weekNumber 50 = .ok (.ifCond .eq 7, 3) := by decide +kernel
theorem dX0_weekNumber_53 : decode cX0_weekNumber 53 = .ok (.iload_n 3, 1) := by decide +kernel
theorem dX0_weekNumber_54 : decode cX0_weekNumber 54 = .ok (.goto 4, 3) := by decide +kernel
theorem dX0_weekNumber_57 : decode cX0_weekNumber 57 = .ok (.iconst (-1), 1) := by decide +kernel
theorem dX0_weekNumber_58 : decode cX0_weekNumber 58 = .ok (.ireturn, 1) := by decide +kernel
theorem dX0_easterNumber_0 : decode cX0_easterNumber 0 = .ok (.iload_n 0, 1) := by decide +kernel
theorem dX0_easterNumber_1 : decode cX0_easterNumber 1 = .ok (.sipush 1583, 3) := by decide +kernel
theorem dX0_easterNumber_4 : decode cX0_easterNumber 4 = .ok (.if_icmp .lt 10, 3) := by decide +kernel
theorem dX0_easterNumber_7 : decode cX0_easterNumber 7 = .ok (.iload_n 0, 1) := by decide +kernel
theorem dX0_easterNumber_8 : decode cX0_easterNumber 8 = .ok (.sipush 9999, 3) := by decide +kernel
theorem dX0_easterNumber_11 : decode cX0_easterNumber 11 = .ok (.if_icmp .le 5, 3) := by decide +kernel
theorem dX0_easterNumber_14 : decode cX0_easterNumber 14 = .ok (.iconst (-1), 1) := by decide +kernel
theorem dX0_easterNumber_15 : decode cX0_easterNumber 15 = .ok (.ireturn, 1) := by decide +kernel
theorem dX0_easterNumber_16 : decode cX0_easterNumber 16 = .ok (.iload_n 0, 1) := by decide +kernel
theorem dX0_easterNumber_17 : decode cX0_easterNumber 17 = .ok (.bipush 19, 2) := by decide +kernel
theorem dX0_easterNumber_19 : decode cX0_easterNumber 19 = .ok (.irem, 1) := by decide +kernel
theorem dX0_easterNumber_20 : decode cX0_easterNumber 20 = .ok (.istore_n 1, 1) := by decide +kernel
theorem dX0_easterNumber_21 : decode cX0_easterNumber 21 = .ok (.iload_n 0, 1) := by decide +kernel
theorem dX0_easterNumber_22 : decode cX0_easterNumber 22 = .ok (.bipush 100, 2) := by decide +kernel
theorem dX0_easterNumber_24 : decode cX0_easterNumber 24 = .ok (.idiv, 1) := by decide +kernel
theorem dX0_easterNumber_25 : decode cX0_easterNumber 25 = .ok (.istore_n 2, 1) := by decide +kernel
theorem dX0_easterNumber_26 : decode cX0_easterNumber 26 = .ok (.iload_n 2, 1) := by decide +kernel
theorem dX0_easterNumber_27 : decode cX0_easterNumber 27 = .ok (.iload_n 2, 1) := by decide +kernel
theorem dX0_easterNumber_28 : decode cX0_easterNumber 28 = .ok (.iconst 4, 1) := by decide +kernel
theorem dX0_easterNumber_29 : decode cX0_easterNumber 29 = .ok (.idiv, 1) := by decide +kernel
theorem dX0_easterNumber_30 : decode cX0_easterNumber 30 = .ok (.isub, 1) := by decide +kernel
theorem dX0_easterNumber_31 : decode cX0_easterNumber 31 = .ok (.bipush 8, 2) := by decide +kernel
theorem dX0_easterNumber_33 : decode cX0_easterNumber 33 = .ok (.iload_n 2, 1) := by decide +kernel
theorem dX0_easterNumber_34 : decode cX0_easterNumber 34 = .ok (.imul, 1) := by decide +kernel
theorem dX0_easterNumber_35 : decode cX0_easterNumber 35 = .ok (.bipush 13, 2) := by decide +kernel
theorem dX0_easterNumber_37 : decode cX0_easterNumber 37 = .ok (.iadd, 1) := by decide +kernel
theorem dX0_easterNumber_38 : decode cX0_easterNumber 38 = .ok (.bipush 25, 2) := by decide +kernel
theorem dX0_easterNumber_40 : decode cX0_easterNumber 40 = .ok (.idiv, 1) := by decide +kernel
theorem dX0_easterNumber_41 : decode cX0_easterNumber 41 = .ok (.isub, 1) := by decide +kernel
theorem dX0_easterNumber_42 : decode cX0_easterNumber 42 = .ok (.bipush 19, 2) := by decide +kernel
theorem dX0_easterNumber_44 : decode cX0_easterNumber 44 = .ok (.iload_n 1, 1) := by decide +kernel
theorem dX0_easterNumber_45 : decode cX0_easterNumber 45 = .ok (.imul, 1) := by decide +kernel
theorem dX0_easterNumber_46 : decode cX0_easterNumber 46 = .ok (.iadd, 1) := by decide +kernel
theorem dX0_easterNumber_47 : decode cX0_easterNumber 47 = .ok (.bipush 15, 2) := by decide +kernel
theorem dX0_easterNumber_49 : decode cX0_easterNumber 49 = .ok (.iadd, 1) := by decide +kernel
theorem dX0_easterNumber_50 : decode cX0_easterNumber 50 = .ok (.bipush 30, 2) := by decide +kernel
theorem dX0_easterNumber_52 : decode cX0_easterNumber 52 = .ok (.irem, 1) := by decide +kernel
theorem dX0_easterNumber_53 : decode cX0_easterNumber 53 = .ok (.istore_n 3, 1) := by decide +kernel
theorem dX0_easterNumber_54 : decode cX0_easterNumber 54 = .ok (.iload_n 3, 1) := by decide +kernel
theorem dX0_easterNumber_55 : decode cX0_easterNumber 55 = .ok (.bipush 29, 2) := by decide +kernel
theorem dX0_easterNumber_57 : decode cX0_easterNumber 57 = .ok (.if_icmp .ne 8, 3) := by decide +kernel
theorem dX0_easterNumber_60 : decode cX0_easterNumber 60 = .ok (.bipush 28, 2) := by decide +kernel
theorem dX0_easterNumber_62 : decode cX0_easterNumber 62 = .ok (.goto 21, 3) := by decide +kernel
theorem dX0_easterNumber_65 : decode cX0_easterNumber 65 = .ok (.iload_n 3, 1) := by decide +kernel
theorem dX0_easterNumber_66 : decode cX0_easterNumber 66 = .ok (.bipush 28, 2) := by decide +kernel
theorem dX0_easterNumber_68 : decode cX0_easterNumber 68 = .ok (.if_icmp .ne 14, 3) := by decide +kernel
theorem dX0_easterNumber_71 : decode cX0_easterNumber 71 = .ok (.iload_n 1, 1) := by decide +kernel
theorem dX0_easterNumber_72 : decode cX0_easterNumber 72 = .ok (.bipush 10, 2) := by decide +kernel
theorem dX0_easterNumber_74 : decode cX0_easterNumber 74 = .ok (.if_icmp .le 8, 3) := by decide +kernel
theorem dX0_easterNumber_77 : decode cX0_easterNumber 77 = .ok (.bipush 27, 2) := by decide +kernel
theorem dX0_easterNumber_79 : decode cX0_easterNumber 79 = .ok (.goto 4, 3) := by decide +kernel
theorem dX0_easterNumber_82 : decode cX0_easterNumber 82 = .ok (.iload_n 3, 1) := by decide +kernel
theorem dX0_easterNumber_83 : decode cX0_easterNumber 83 = .ok (.istore 4, 2) := by decide +kernel
theorem dX0_easterNumber_85 : decode cX0_easterNumber 85 = .ok (.iload_n 0, 1) := by decide +kernel
theorem dX0_easterNumber_86 : decode cX0_easterNumber 86 = .ok (.iconst 3, 1) := by decide +kernel
theorem dX0_easterNumber_87 : decode cX0_easterNumber 87 = .ok (.invokestatic 34, 3) := by decide +kernel
theorem dX0_easterNumber_90 : decode cX0_easterNumber 90 = .ok (.bipush 20, 2) := by decide +kernel
theorem dX0_easterNumber_92 : decode cX0_easterNumber 92 = .ok (.iadd, 1) := by decide +kernel
theorem dX0_easterNumber_93 : decode cX0_easterNumber 93 = .ok (.istore 5, 2) := by decide +kernel
theorem dX0_easterNumber_95 : decode cX0_easterNumber 95 = .ok (.iload 5, 2) := by decide +kernel
theorem dX0_easterNumber_97 : decode cX0_easterNumber 97 = .ok (.iload 4, 2) := by decide +kernel
theorem dX0_easterNumber_99 : decode cX0_easterNumber 99 = .ok (.iadd, 1) := by decide +kernel
theorem dX0_easterNumber_100 : decode cX0_easterNumber 100 = .ok (.iconst 1, 1) := by decide +kernel
theorem dX0_easterNumber_101 : decode cX0_easterNumber 101 = .ok (.iadd, 1) := by decide +kernel
theorem dX0_easterNumber_102 : decode cX0_easterNumber 102 = .ok (.bipush 7, 2) := by decide +kernel
theorem dX0_easterNumber_104 : decode cX0_easterNumber 104 = .ok (.invokestatic 50, 3) := by decide +kernel
theorem dX0_easterNumber_107 : decode cX0_easterNumber 107 = .ok (.ireturn, 1) := by decide +kernel
theorem dX0_nthNumber_0 : decode cX0_nthNumber 0 = .ok (.iload_n 0, 1) := by decide +kernel
theorem dX0_nthNumber_1 : decode cX0_nthNumber 1 = .ok (.invokestatic 24, 3) := by decide +kernel
theorem dX0_nthNumber_4 : decode cX0_nthNumber 4 = .ok (.ifCond .eq 17, 3) := by decide +kernel
theorem dX0_nthNumber_7 : decode cX0_nthNumber 7 = .ok (.iload_n 1, 1) := by decide +kernel
theorem dX0_nthNumber_8 : decode cX0_nthNumber 8 = .ok (.invokestatic 27, 3) := by decide +kernel
theorem dX0_nthNumber_11 : decode cX0_nthNumber 11 = .ok (.ifCond .eq 10, 3) := by decide +kernel
theorem dX0_nthNumber_14 : decode cX0_nthNumber 14 = .ok (.iload_n 2, 1) := by decide +kernel
theorem dX0_nthNumber_15 : decode cX0_nthNumber 15 = .ok (.invokestatic 40, 3) := by decide +kernel
theorem dX0_nthNumber_18 : decode cX0_nthNumber 18 = .ok (.ifCond .ne 5, 3) := by decide +kernel
theorem dX0_nthNumber_21 : decode cX0_nthNumber 21 = .ok (.iconst (-1), 1) := by decide +kernel
theorem dX0_nthNumber_22 : decode cX0_nthNumber 22 = .ok (.ireturn, 1) := by decide +kernel
theorem dX0_nthNumber_23 : decode cX0_nthNumber 23 = .ok (.iload_n 3, 1) := by decide +kernel
theorem dX0_nthNumber_24 : decode cX0_nthNumber 24 = .ok (.ifCond .eq 14, 3) := by decide +kernel
theorem dX0_nthNumber_27 : decode cX0_nthNumber 27 = .ok (.iload_n 3, 1) := by decide +kernel
theorem dX0_nthNumber_28 : decode cX0_nthNumber 28 = .ok (.bipush (-5), 2) := by decide +kernel
theorem dX0_nthNumber_30 : decode cX0_nthNumber 30 = .ok (.if_icmp .lt 8, 3) := by decide +kernel
theorem dX0_nthNumber_33 : decode cX0_nthNumber 33 = .ok (.iload_n 3, 1) := by decide +kernel
theorem dX0_nthNumber_34 : decode cX0_nthNumber 34 = .ok (.iconst 5, 1) := by decide +kernel
theorem dX0_nthNumber_35 : decode cX0_nthNumber 35 = .ok (.if_icmp .le 5, 3) := by decide +kernel
theorem dX0_nthNumber_38 : decode cX0_nthNumber 38 = .ok (.iconst (-1), 1) := by decide +kernel
theorem dX0_nthNumber_39 : decode cX0_nthNumber 39 = .ok (.ireturn, 1) := by decide +kernel
theorem dX0_nthNumber_40 : decode cX0_nthNumber 40 = .ok (.iload_n 0, 1) := by decide +kernel
theorem dX0_nthNumber_41 : decode cX0_nthNumber 41 = .ok (.iload_n 1, 1) := by decide +kernel
theorem dX0_nthNumber_42 : decode cX0_nthNumber 42 = .ok (.invokestatic 34, 3) := by decide +kernel
theorem dX0_nthNumber_45 : decode cX0_nthNumber 45 = .ok (.istore 4, 2) := by decide +kernel
theorem dX0_nthNumber_47 : decode cX0_nthNumber 47 = .ok (.iload 4, 2) := by decide +kernel
theorem dX0_nthNumber_49 : decode cX0_nthNumber 49 = .ok (.iload_n 0, 1) := by decide +kernel
theorem dX0_nthNumber_50 : decode cX0_nthNumber 50 = .ok (.iload_n 1, 1) := by decide +kernel
theorem dX0_nthNumber_51 : decode cX0_nthNumber 51 = .ok (.invokestatic 30, 3) := by decide +kernel
theorem dX0_nthNumber_54 : decode cX0_nthNumber 54 = .ok (.iadd, 1) := by decide +kernel
theorem dX0_nthNumber_55 : decode cX0_nthNumber 55 = .ok (.iconst 1, 1) := by decide +kernel
theorem dX0_nthNumber_56 : decode cX0_nthNumber 56 = .ok (.isub, 1) := by decide +kernel
theorem dX0_nthNumber_57 : decode cX0_nthNumber 57 = .ok (.istore 5, 2) := by decide +kernel
theorem dX0_nthNumber_59 : decode cX0_nthNumber 59 = .ok (.iload_n 3, 1) := by decide +kernel
theorem dX0_nthNumber_60 : decode cX0_nthNumber 60 = .ok (.ifCond .le 19, 3) := by decide +kernel
theorem dX0_nthNumber_63 : decode cX0_nthNumber 63 = .ok (.iload 4, 2) := by decide +kernel
theorem dX0_nthNumber_65 : decode cX0_nthNumber 65 = .ok (.iload_n 2, 1) := by decide +kernel
theorem dX0_nthNumber_66 : decode cX0_nthNumber 66 = .ok (.invokestatic 50, 3) := by decide +kernel
theorem dX0_nthNumber_69 : decode cX0_nthNumber 69 = .ok (.bipush 7, 2) := by decide +kernel
theorem dX0_nthNumber_71 : decode cX0_nthNumber 71 = .ok (.iload_n 3, 1) := by decide +kernel
theorem dX0_nthNumber_72 : decode cX0_nthNumber 72 = .ok (.iconst 1, 1) := by decide +kernel
theorem dX0_nthNumber_73 : decode cX0_nthNumber 73 = .ok (.isub, 1) := by decide +kernel
theorem dX0_nthNumber_74 : decode cX0_nthNumber 74 = .ok (.imul, 1) := by decide +kernel
theorem dX0_nthNumber_75 : decode cX0_nthNumber 75 = .ok (.iadd, 1) := by decide +kernel
theorem dX0_nthNumber_76 : decode cX0_nthNumber 76 = .ok (.goto 19, 3) := by decide +kernel
theorem dX0_nthNumber_79 : decode cX0_nthNumber 79 = .ok (.iload 5, 2) := by decide +kernel
theorem dX0_nthNumber_81 : decode cX0_nthNumber 81 = .ok (.bipush 6, 2) := by decide +kernel
theorem dX0_nthNumber_83 : decode cX0_nthNumber 83 = .ok (.isub, 1) := by decide +kernel
theorem dX0_nthNumber_84 : decode cX0_nthNumber 84 = .ok (.iload_n 2, 1) := by decide +kernel
theorem dX0_nthNumber_85 : decode cX0_nthNumber 85 = .ok (.invokestatic 50, 3) := by decide +kernel
theorem dX0_nthNumber_88 : decode cX0_nthNumber 88 = .ok (.bipush 7, 2) := by decide +kernel
theorem dX0_nthNumber_90 : decode cX0_nthNumber 90 = .ok (.iload_n 3, 1) := by decide +kernel
theorem dX0_nthNumber_91 : decode cX0_nthNumber 91 = .ok (.iconst 1, 1) := by decide +kernel
theorem dX0_nthNumber_92 : decode cX0_nthNumber 92 = .ok (.iadd, 1) := by decide +kernel
theorem dX0_nthNumber_93 : decode cX0_nthNumber 93 = .ok (.imul, 1) := by decide +kernel
theorem dX0_nthNumber_94 : decode cX0_nthNumber 94 = .ok (.iadd, 1) := by decide +kernel
theorem dX0_nthNumber_95 : decode cX0_nthNumber 95 = .ok (.istore 6, 2) := by decide +kernel
theorem dX0_nthNumber_97 : decode cX0_nthNumber 97 = .ok (.iload 6, 2) := by decide +kernel
theorem dX0_nthNumber_99 : decode cX0_nthNumber 99 = .ok (.iload 4, 2) := by decide +kernel
theorem dX0_nthNumber_101 : decode cX0_nthNumber 101 = .ok (.if_icmp .lt 10, 3) := by decide +kernel
theorem dX0_nthNumber_104 : decode cX0_nthNumber 104 = .ok (.iload 6, 2) := by decide +kernel
theorem dX0_nthNumber_106 : decode cX0_nthNumber 106 = .ok (.iload 5, 2) := by decide +kernel
theorem dX0_nthNumber_108 : decode cX0_nthNumber 108 = .ok (.if_icmp .le 7, 3) := by decide +kernel
theorem dX0_nthNumber_111 : decode cX0_nthNumber 111 = .ok (.iconst (-1), 1) := by decide +kernel
theorem dX0_nthNumber_112 : decode cX0_nthNumber 112 = .ok (.goto 5, 3) := by decide +kernel
theorem dX0_nthNumber_115 : decode cX0_nthNumber 115 = .ok (.iload 6, 2) := by decide +kernel
theorem dX0_nthNumber_117 : decode cX0_nthNumber 117 = .ok (.ireturn, 1) := by decide +kernel
theorem dX0_onOrBehind_0 : decode cX0_onOrBehind 0 = .ok (.iload_n 0, 1) := by decide +kernel
theorem dX0_onOrBehind_1 : decode cX0_onOrBehind 1 = .ok (.iload_n 1, 1) := by decide +kernel
theorem dX0_onOrBehind_2 : decode cX0_onOrBehind 2 = .ok (.iload_n 0, 1) := by decide +kernel
theorem dX0_onOrBehind_3 : decode cX0_onOrBehind 3 = .ok (.invokestatic 53, 3) := by decide +kernel
theorem dX0_onOrBehind_6 : decode cX0_onOrBehind 6 = .ok (.isub, 1) := by decide +kernel
theorem dX0_onOrBehind_7 : decode cX0_onOrBehind 7 = .ok (.bipush 7, 2) := by decide +kernel
theorem dX0_onOrBehind_9 : decode cX0_onOrBehind 9 = .ok (.iadd, 1) := by decide +kernel
theorem dX0_onOrBehind_10 : decode cX0_onOrBehind 10 = .ok (.bipush 7, 2) := by decide +kernel
theorem dX0_onOrBehind_12 : decode cX0_onOrBehind 12 = .ok (.irem, 1) := by decide +kernel
theorem dX0_onOrBehind_13 : decode cX0_onOrBehind 13 = .ok (.iadd, 1) := by decide +kernel
theorem dX0_onOrBehind_14 : decode cX0_onOrBehind 14 = .ok (.ireturn, 1) := by decide +kernel
theorem dX0_weekdayOf_0 : decode cX0_weekdayOf 0 = .ok (.iload_n 0, 1) := by decide +kernel
theorem dX0_weekdayOf_1 : decode cX0_weekdayOf 1 = .ok (.bipush 7, 2) := by decide +kernel
theorem dX0_weekdayOf_3 : decode cX0_weekdayOf 3 = .ok (.irem, 1) := by decide +kernel
theorem dX0_weekdayOf_4 : decode cX0_weekdayOf 4 = .ok (.iconst 1, 1) := by decide +kernel
theorem dX0_weekdayOf_5 : decode cX0_weekdayOf 5 = .ok (.iadd, 1) := by decide +kernel
theorem dX0_weekdayOf_6 : decode cX0_weekdayOf 6 = .ok (.ireturn, 1) := by decide +kernel
theorem dX0_yearOf_0 : decode cX0_yearOf 0 = .ok (.iload_n 0, 1) := by decide +kernel
theorem dX0_yearOf_1 : decode cX0_yearOf 1 = .ok (.ldc 56, 2) := by decide +kernel
theorem dX0_yearOf_3 : decode cX0_yearOf 3 = .ok (.irem, 1) := by decide +kernel
theorem dX0_yearOf_4 : decode cX0_yearOf 4 = .ok (.istore_n 1, 1) := by decide +kernel
theorem dX0_yearOf_5 : decode cX0_yearOf 5 = .ok (.iload_n 1, 1) := by decide +kernel
theorem dX0_yearOf_6 : decode cX0_yearOf 6 = .ok (.ldc 57, 2) := by decide +kernel
theorem dX0_yearOf_8 : decode cX0_yearOf 8 = .ok (.idiv, 1) := by decide +kernel
theorem dX0_yearOf_9 : decode cX0_yearOf 9 = .ok (.iconst 3, 1) := by decide +kernel
theorem dX0_yearOf_10 : decode cX0_yearOf 10 = .ok (.invokestatic 58, 3) := by decide +kernel
theorem dX0_yearOf_13 : decode cX0_yearOf 13 = .ok (.istore_n 2, 1) := by decide +kernel
theorem dX0_yearOf_14 : decode cX0_yearOf 14 = .ok (.iload_n 1, 1) := by decide +kernel
theorem dX0_yearOf_15 : decode cX0_yearOf 15 = .ok (.ldc 57, 2) := by decide +kernel
theorem dX0_yearOf_17 : decode cX0_yearOf 17 = .ok (.iload_n 2, 1) := by decide +kernel
theorem dX0_yearOf_18 : decode cX0_yearOf 18 = .ok (.imul, 1) := by decide +kernel
theorem dX0_yearOf_19 : decode cX0_yearOf 19 = .ok (.isub, 1) := by decide +kernel
theorem dX0_yearOf_20 : decode cX0_yearOf 20 = .ok (.istore_n 1, 1) := by decide +kernel
theorem dX0_yearOf_21 : decode cX0_yearOf 21 = .ok (.iload_n 1, 1) := by decide +kernel
theorem dX0_yearOf_22 : decode cX0_yearOf 22 = .ok (.sipush 1461, 3) := by decide +kernel
theorem dX0_yearOf_25 : decode cX0_yearOf 25 = .ok (.idiv, 1) := by decide +kernel
theorem dX0_yearOf_26 : decode cX0_yearOf 26 = .ok (.istore_n 3, 1) := by decide +kernel
theorem dX0_yearOf_27 : decode cX0_yearOf 27 = .ok (.iload_n 1, 1) := by decide +kernel
theorem dX0_yearOf_28 : decode cX0_yearOf 28 = .ok (.sipush 1461, 3) := by decide +kernel
theorem dX0_yearOf_31 : decode cX0_yearOf 31 = .ok (.iload_n 3, 1) := by decide +kernel
theorem dX0_yearOf_32 : decode cX0_yearOf 32 = .ok (.imul, 1) := by decide +kernel
theorem dX0_yearOf_33 : decode cX0_yearOf 33 = .ok (.isub, 1) := by decide +kernel
theorem dX0_yearOf_34 : decode cX0_yearOf 34 = .ok (.istore_n 1, 1) := by decide +kernel
theorem dX0_yearOf_35 : decode cX0_yearOf 35 = .ok (.iload_n 1, 1) := by decide +kernel
theorem dX0_yearOf_36 : decode cX0_yearOf 36 = .ok (.sipush 365, 3) := by decide +kernel
theorem dX0_yearOf_39 : decode cX0_yearOf 39 = .ok (.idiv, 1) := by decide +kernel
theorem dX0_yearOf_40 : decode cX0_yearOf 40 = .ok (.iconst 3, 1) := by decide +kernel
theorem dX0_yearOf_41 : decode cX0_yearOf 41 = .ok (.invokestatic 58, 3) := by decide +kernel
theorem dX0_yearOf_44 : decode cX0_yearOf 44 = .ok (.istore 4, 2) := by decide +kernel
theorem dX0_yearOf_46 : decode cX0_yearOf 46 = .ok (.sipush 400, 3) := by decide +kernel
theorem dX0_yearOf_49 : decode cX0_yearOf 49 = .ok (.iload_n 0, 1) := by decide +kernel
theorem dX0_yearOf_50 : decode cX0_yearOf 50 = .ok (.ldc 56, 2) := by decide +kernel
theorem dX0_yearOf_52 : decode cX0_yearOf 52 = .ok (.idiv, 1) := by decide +kernel
theorem dX0_yearOf_53 : decode cX0_yearOf 53 = .ok (.imul, 1) := by decide +kernel
theorem dX0_yearOf_54 : decode cX0_yearOf 54 = .ok (.bipush 100, 2) := by decide +kernel
theorem dX0_yearOf_56 : decode cX0_yearOf 56 = .ok (.iload_n 2, 1) := by decide +kernel
theorem dX0_yearOf_57 : decode cX0_yearOf 57 = .ok (.imul, 1) := by decide +kernel
theorem dX0_yearOf_58 : decode cX0_yearOf 58 = .ok (.iadd, 1) := by decide +kernel
theorem dX0_yearOf_59 : decode cX0_yearOf 59 = .ok (.iconst 4, 1) := by decide +kernel
theorem dX0_yearOf_60 : decode cX0_yearOf 60 = .ok (.iload_n 3, 1) := by decide +kernel
theorem dX0_yearOf_61 : decode cX0_yearOf 61 = .ok (.imul, 1) := by decide +kernel
theorem dX0_yearOf_62 : decode cX0_yearOf 62 = .ok (.iadd, 1) := by decide +kernel
theorem dX0_yearOf_63 : decode cX0_yearOf 63 = .ok (.iload 4, 2) := by decide +kernel
theorem dX0_yearOf_65 : decode cX0_yearOf 65 = .ok (.iadd, 1) := by decide +kernel
theorem dX0_yearOf_66 : decode cX0_yearOf 66 = .ok (.iconst 1, 1) := by decide +kernel
theorem dX0_yearOf_67 : decode cX0_yearOf 67 = .ok (.iadd, 1) := by decide +kernel
theorem dX0_yearOf_68 : decode cX0_yearOf 68 = .ok (.ireturn, 1) := by decide +kernel
theorem dX0_monthOf_0 : decode cX0_monthOf 0 = .ok (.iload_n 0, 1) := by decide +kernel
theorem dX0_monthOf_1 : decode cX0_monthOf 1 = .ok (.invokestatic 63, 3) := by decide +kernel
theorem dX0_monthOf_4 : decode cX0_monthOf 4 = .ok (.istore_n 1, 1) := by decide +kernel
theorem dX0_monthOf_5 : decode cX0_monthOf 5 = .ok (.bipush 12, 2) := by decide +kernel
theorem dX0_monthOf_7 : decode cX0_monthOf 7 = .ok (.istore_n 2, 1) := by decide +kernel
theorem dX0_monthOf_8 : decode cX0_monthOf 8 = .ok (.iload_n 2, 1) := by decide +kernel
theorem dX0_monthOf_9 : decode cX0_monthOf 9 = .ok (.iconst 1, 1) := by decide +kernel
theorem dX0_monthOf_10 : decode cX0_monthOf 10 = .ok (.if_icmp .le 18, 3) := by decide +kernel
theorem dX0_monthOf_13 : decode cX0_monthOf 13 = .ok (.iload_n 0, 1) := by decide +kernel
theorem dX0_monthOf_14 : decode cX0_monthOf 14 = .ok (.iload_n 1, 1) := by decide +kernel
theorem dX0_monthOf_15 : decode cX0_monthOf 15 = .ok (.iload_n 2, 1) := by decide +kernel
theorem dX0_monthOf_16 : decode cX0_monthOf 16 = .ok (.invokestatic 34, 3) := by decide +kernel
theorem dX0_monthOf_19 : decode cX0_monthOf 19 = .ok (.if_icmp .ge 9, 3) := by decide +kernel
theorem dX0_monthOf_22 : decode cX0_monthOf 22 = .ok (.iinc 2 (-1), 3) := by decide +kernel
theorem dX0_monthOf_25 : decode cX0_monthOf 25 = .ok (.goto (-17), 3) := by decide +kernel
theorem dX0_monthOf_28 : decode cX0_monthOf 28 = .ok (.iload_n 2, 1) := by decide +kernel
theorem dX0_monthOf_29 : decode cX0_monthOf 29 = .ok (.ireturn, 1) := by decide +kernel
theorem dX0_dayOf_0 : decode cX0_dayOf 0 = .ok (.iload_n 0, 1) := by decide +kernel
theorem dX0_dayOf_1 : decode cX0_dayOf 1 = .ok (.iload_n 0, 1) := by decide +kernel
theorem dX0_dayOf_2 : decode cX0_dayOf 2 = .ok (.invokestatic 63, 3) := by decide +kernel
theorem dX0_dayOf_5 : decode cX0_dayOf 5 = .ok (.iload_n 0, 1) := by decide +kernel
theorem dX0_dayOf_6 : decode cX0_dayOf 6 = .ok (.invokestatic 66, 3) := by decide +kernel
theorem dX0_dayOf_9 : decode cX0_dayOf 9 = .ok (.invokestatic 34, 3) := by decide +kernel
theorem dX0_dayOf_12 : decode cX0_dayOf 12 = .ok (.isub, 1) := by decide +kernel
theorem dX0_dayOf_13 : decode cX0_dayOf 13 = .ok (.iconst 1, 1) := by decide +kernel
theorem dX0_dayOf_14 : decode cX0_dayOf 14 = .ok (.iadd, 1) := by decide +kernel
theorem dX0_dayOf_15 : decode cX0_dayOf 15 = .ok (.ireturn, 1) := by decide +kernel
theorem dX0_yearDayOf_0 : decode cX0_yearDayOf 0 = .ok (.iload_n 0, 1) := by decide +kernel
theorem dX0_yearDayOf_1 : decode cX0_yearDayOf 1 = .ok (.iload_n 0, 1) := by decide +kernel
theorem dX0_yearDayOf_2 : decode cX0_yearDayOf 2 = .ok (.invokestatic 63, 3) := by decide +kernel
theorem dX0_yearDayOf_5 : decode cX0_yearDayOf 5 = .ok (.invokestatic 17, 3) := by decide +kernel
theorem dX0_yearDayOf_8 : decode cX0_yearDayOf 8 = .ok (.isub, 1) := by decide +kernel
theorem dX0_yearDayOf_9 : decode cX0_yearDayOf 9 = .ok (.iconst 1, 1) := by decide +kernel
theorem dX0_yearDayOf_10 : decode cX0_yearDayOf 10 = .ok (.iadd, 1) := by decide +kernel
theorem dX0_yearDayOf_11 : decode cX0_yearDayOf 11 = .ok (.ireturn, 1) := by decide +kernel
theorem dX0_weekYearOf_0 : decode cX0_weekYearOf 0 = .ok (.iload_n 0, 1) := by decide +kernel
theorem dX0_weekYearOf_1 : decode cX0_weekYearOf 1 = .ok (.iload_n 0, 1) := by decide +kernel
theorem dX0_weekYearOf_2 : decode cX0_weekYearOf 2 = .ok (.bipush 7, 2) := by decide +kernel
theorem dX0_weekYearOf_4 : decode cX0_weekYearOf 4 = .ok (.irem, 1) := by decide +kernel
theorem dX0_weekYearOf_5 : decode cX0_weekYearOf 5 = .ok (.isub, 1) := by decide +kernel
theorem dX0_weekYearOf_6 : decode cX0_weekYearOf 6 = .ok (.iconst 3, 1) := by decide +kernel
theorem dX0_weekYearOf_7 : decode cX0_weekYearOf 7 = .ok (.iadd, 1) := by decide +kernel
theorem dX0_weekYearOf_8 : decode cX0_weekYearOf 8 = .ok (.istore_n 1, 1) := by decide +kernel
theorem dX0_weekYearOf_9 : decode cX0_weekYearOf 9 = .ok (.iload_n 1, 1) := by decide +kernel
theorem dX0_weekYearOf_10 : decode cX0_weekYearOf 10 = .ok (.invokestatic 63, 3) := by decide +kernel
theorem dX0_weekYearOf_13 : decode cX0_weekYearOf 13 = .ok (.ireturn, 1) := by decide +kernel
theorem dX0_weekOf_0 : decode cX0_weekOf 0 = .ok (.iload_n 0, 1) := by decide +kernel
theorem dX0_weekOf_1 : decode cX0_weekOf 1 = .ok (.iload_n 0, 1) := by decide +kernel
theorem dX0_weekOf_2 : decode cX0_weekOf 2 = .ok (.invokestatic 69, 3) := by decide +kernel
theorem dX0_weekOf_5 : decode cX0_weekOf 5 = .ok (.invokestatic 21, 3) := by decide +kernel
theorem dX0_weekOf_8 : decode cX0_weekOf 8 = .ok (.isub, 1) := by decide +kernel
theorem dX0_weekOf_9 : decode cX0_weekOf 9 = .ok (.bipush 7, 2) := by decide +kernel
theorem dX0_weekOf_11 : decode cX0_weekOf 11 = .ok (.idiv, 1) := by decide +kernel
theorem dX0_weekOf_12 : decode cX0_weekOf 12 = .ok (.iconst 1, 1) := by decide +kernel
theorem dX0_weekOf_13 : decode cX0_weekOf 13 = .ok (.iadd, 1) := by decide +kernel
theorem dX0_weekOf_14 : decode cX0_weekOf 14 = .ok (.ireturn, 1) := by decide +kernel
theorem dX0_movedByDays_0 : decode cX0_movedByDays 0 = .ok (.iload_n 0, 1) := by decide +kernel
theorem dX0_movedByDays_1 : decode cX0_movedByDays 1 = .ok (.i2l, 1) := by decide +kernel
theorem dX0_movedByDays_2 : decode cX0_movedByDays 2 = .ok (.iload_n 1, 1) := by decide +kernel
theorem dX0_movedByDays_3 : decode cX0_movedByDays 3 = .ok (.i2l, 1) := by decide +kernel
theorem dX0_movedByDays_4 : decode cX0_movedByDays 4 = .ok (.ladd, 1) := by decide +kernel
theorem dX0_movedByDays_5 : decode cX0_movedByDays 5 = .ok (.lstore_n 2, 1) := by decide +kernel
theorem dX0_movedByDays_6 : decode cX0_movedByDays 6 = .ok (.lload_n 2, 1) := by decide +kernel
theorem dX0_movedByDays_7 : decode cX0_movedByDays 7 = .ok (.invokestatic 46, 3) := by decide +kernel
theorem dX0_movedByDays_10 : decode cX0_movedByDays 10 = .ok (.ifCond .eq 8, 3) := by decide +kernel
theorem dX0_movedByDays_13 : decode cX0_movedByDays 13 = .ok (.lload_n 2, 1) := by decide +kernel
theorem dX0_movedByDays_14 : decode cX0_movedByDays 14 = .ok (.l2i, 1) := by decide +kernel
theorem dX0_movedByDays_15 : decode cX0_movedByDays 15 = .ok (.goto 4, 3) := by decide +kernel
theorem dX0_movedByDays_18 : decode cX0_movedByDays 18 = .ok (.iconst (-1), 1) := by decide +kernel
theorem dX0_movedByDays_19 : decode cX0_movedByDays 19 = .ok (.ireturn, 1) := by decide +kernel
theorem dX0_movedByMonths_0 : decode cX0_movedByMonths 0 = .ok (.ldc2_w 72, 3) := by decide +kernel
theorem dX0_movedByMonths_3 : decode cX0_movedByMonths 3 = .ok (.iload_n 0, 1) := by decide +kernel
theorem dX0_movedByMonths_4 : decode cX0_movedByMonths 4 = .ok (.invokestatic 63, 3) := by decide +kernel
theorem dX0_movedByMonths_7 : decode cX0_movedByMonths 7 = .ok (.iconst 1, 1) := by decide +kernel
theorem dX0_movedByMonths_8 : decode cX0_movedByMonths 8 = .ok (.isub, 1) := by decide +kernel
theorem dX0_movedByMonths_9 : decode cX0_movedByMonths 9 = .ok (.i2l, 1) := by decide +kernel
theorem dX0_movedByMonths_10 : decode cX0_movedByMonths 10 = .ok (.lmul, 1) := by decide +kernel
theorem dX0_movedByMonths_11 : decode cX0_movedByMonths 11 = .ok (.iload_n 0, 1) := by decide +kernel
theorem dX0_movedByMonths_12 : decode cX0_movedByMonths 12 = .ok (.invokestatic 66, 3) := by decide +kernel
theorem dX0_movedByMonths_15 : decode cX0_movedByMonths 15 = .ok (.i2l, 1) := by decide +kernel
theorem dX0_movedByMonths_16 : decode cX0_movedByMonths 16 = .ok (.ladd, 1) := by decide +kernel
theorem dX0_movedByMonths_17 : decode cX0_movedByMonths 17 = .ok (.lconst 1, 1) := by decide +kernel
theorem dX0_movedByMonths_18 : decode cX0_movedByMonths 18 = .ok (.lsub, 1) := by decide +kernel
theorem dX0_movedByMonths_19 : decode cX0_movedByMonths 19 = .ok (.lload_n 1, 1) := by decide +kernel
theorem dX0_movedByMonths_20 : decode cX0_movedByMonths 20 = .ok (.ladd, 1) := by decide +kernel
theorem dX0_movedByMonths_21 : decode cX0_movedByMonths 21 = .ok (.lstore_n 3, 1) := by decide +kernel
theorem dX0_movedByMonths_22 : decode cX0_movedByMonths 22 = .ok (.lload_n 3, 1) := by decide +kernel
theorem dX0_movedByMonths_23 : decode cX0_movedByMonths 23 = .ok (.lconst 0, 1) := by decide +kernel
theorem dX0_movedByMonths_24 : decode cX0_movedByMonths 24 = .ok (.lcmp, 1) := by decide +kernel
theorem dX0_movedByMonths_25 : decode cX0_movedByMonths 25 = .ok (.ifCond .lt 11, 3) := by decide +kernel
theorem dX0_movedByMonths_28 : decode cX0_movedByMonths 28 = .ok (.lload_n 3, 1) := by decide +kernel
theorem dX0_movedByMonths_29 : decode cX0_movedByMonths 29 = .ok (.ldc2_w 74, 3) := by decide +kernel
theorem dX0_movedByMonths_32 : decode cX0_movedByMonths 32 = .ok (.lcmp, 1) := by decide +kernel
theorem dX0_movedByMonths_33 : decode cX0_movedByMonths 33 = .ok (.ifCond .lt 5, 3) := by decide +kernel
theorem dX0_movedByMonths_36 : decode cX0_movedByMonths 36 = .ok (.iconst (-1), 1) := by decide +kernel
theorem dX0_movedByMonths_37 : decode cX0_movedByMonths 37 = .ok (.ireturn, 1) := by decide +kernel
theorem dX0_movedByMonths_38 : decode cX0_movedByMonths 38 = .ok (.lload_n 3, 1) := by decide +kernel
theorem dX0_movedByMonths_39 : decode cX0_movedByMonths 39 = .ok (.ldc2_w 72, 3) := by decide +kernel
theorem dX0_movedByMonths_42 : decode cX0_movedByMonths 42 = .ok (.ldiv, 1) := by decide +kernel
theorem dX0_movedByMonths_43 : decode cX0_movedByMonths 43 = .ok (.l2i, 1) := by decide +kernel
theorem dX0_movedByMonths_44 : decode cX0_movedByMonths 44 = .ok (.iconst 1, 1) := by decide +kernel
theorem dX0_movedByMonths_45 : decode cX0_movedByMonths 45 = .ok (.iadd, 1) := by decide +kernel
theorem dX0_movedByMonths_46 : decode cX0_movedByMonths 46 = .ok (.istore 5, 2) := by decide +kernel
theorem dX0_movedByMonths_48 : decode cX0_movedByMonths 48 = .ok (.lload_n 3, 1) := by decide +kernel
theorem dX0_movedByMonths_49 : decode cX0_movedByMonths 49 = .ok (.ldc2_w 72, 3) := by decide +kernel
theorem dX0_movedByMonths_52 : decode cX0_movedByMonths 52 = .ok (.lrem, 1) := by decide +kernel
theorem dX0_movedByMonths_53 : decode cX0_movedByMonths 53 = .ok (.l2i, 1) := by decide +kernel
theorem dX0_movedByMonths_54 : decode cX0_movedByMonths 54 = .ok (.iconst 1, 1) := by decide +kernel
theorem dX0_movedByMonths_55 : decode cX0_movedByMonths 55 = .ok (.iadd, 1) := by decide +kernel
theorem dX0_movedByMonths_56 : decode cX0_movedByMonths 56 = .ok (.istore 6, 2) := by decide +kernel
theorem dX0_movedByMonths_58 : decode cX0_movedByMonths 58 = .ok (.iload_n 0, 1) := by decide +kernel
theorem dX0_movedByMonths_59 : decode cX0_movedByMonths 59 = .ok (.invokestatic 76, 3) := by decide +kernel
theorem dX0_movedByMonths_62 : decode cX0_movedByMonths 62 = .ok (.iload 5, 2) := by decide +kernel
theorem dX0_movedByMonths_64 : decode cX0_movedByMonths 64 = .ok (.iload 6, 2) := by decide +kernel
theorem dX0_movedByMonths_66 : decode cX0_movedByMonths 66 = .ok (.invokestatic 30, 3) := by decide +kernel
theorem dX0_movedByMonths_69 : decode cX0_movedByMonths 69 = .ok (.invokestatic 58, 3) := by decide +kernel
theorem dX0_movedByMonths_72 : decode cX0_movedByMonths 72 = .ok (.istore 7, 2) := by decide +kernel
theorem dX0_movedByMonths_74 : decode cX0_movedByMonths 74 = .ok (.iload 5, 2) := by decide +kernel
theorem dX0_movedByMonths_76 : decode cX0_movedByMonths 76 = .ok (.iload 6, 2) := by decide +kernel
theorem dX0_movedByMonths_78 : decode cX0_movedByMonths 78 = .ok (.invokestatic 34, 3) := by decide +kernel
theorem dX0_movedByMonths_81 : decode cX0_movedByMonths 81 = .ok (.iload 7, 2) := by decide +kernel
theorem dX0_movedByMonths_83 : decode cX0_movedByMonths 83 = .ok (.iadd, 1) := by decide +kernel
theorem dX0_movedByMonths_84 : decode cX0_movedByMonths 84 = .ok (.iconst 1, 1) := by decide +kernel
theorem dX0_movedByMonths_85 : decode cX0_movedByMonths 85 = .ok (.isub, 1) := by decide +kernel
theorem dX0_movedByMonths_86 : decode cX0_movedByMonths 86 = .ok (.ireturn, 1) := by decide +kernel
theorem dX0_monthsBetween_0 : decode cX0_monthsBetween 0 = .ok (.bipush 12, 2) := by decide +kernel
theorem dX0_monthsBetween_2 : decode cX0_monthsBetween 2 = .ok (.iload_n 1, 1) := by decide +kernel
theorem dX0_monthsBetween_3 : decode cX0_monthsBetween 3 = .ok (.invokestatic 63, 3) := by decide +kernel
theorem dX0_monthsBetween_6 : decode cX0_monthsBetween 6 = .ok (.iload_n 0, 1) := by decide +kernel
theorem dX0_monthsBetween_7 : decode cX0_monthsBetween 7 = .ok (.invokestatic 63, 3) := by decide +kernel
theorem dX0_monthsBetween_10 : decode cX0_monthsBetween 10 = .ok (.isub, 1) := by decide +kernel
theorem dX0_monthsBetween_11 : decode cX0_monthsBetween 11 = .ok (.imul, 1) := by decide +kernel
theorem dX0_monthsBetween_12 : decode cX0_monthsBetween 12 = .ok (.iload_n 1, 1) := by decide +kernel
theorem dX0_monthsBetween_13 : decode cX0_monthsBetween 13 = .ok (.invokestatic 66, 3) := by decide +kernel
theorem dX0_monthsBetween_16 : decode cX0_monthsBetween 16 = .ok (.iadd, 1) := by decide +kernel
theorem dX0_monthsBetween_17 : decode cX0_monthsBetween 17 = .ok (.iload_n 0, 1) := by decide +kernel
theorem dX0_monthsBetween_18 : decode cX0_monthsBetween 18 = .ok (.invokestatic 66, 3) := by decide +kernel
theorem dX0_monthsBetween_21 : decode cX0_monthsBetween 21 = .ok (.isub, 1) := by decide +kernel
theorem dX0_monthsBetween_22 : decode cX0_monthsBetween 22 = .ok (.istore_n 2, 1) := by decide +kernel
theorem dX0_monthsBetween_23 : decode cX0_monthsBetween 23 = .ok (.iload_n 0, 1) := by decide +kernel
theorem dX0_monthsBetween_24 : decode cX0_monthsBetween 24 = .ok (.iload_n 2, 1) := by decide +kernel
theorem dX0_monthsBetween_25 : decode cX0_monthsBetween 25 = .ok (.i2l, 1) := by decide +kernel
theorem dX0_monthsBetween_26 : decode cX0_monthsBetween 26 = .ok (.invokestatic 79, 3) := by decide +kernel
theorem dX0_monthsBetween_29 : decode cX0_monthsBetween 29 = .ok (.iload_n 1, 1) := by decide +kernel
theorem dX0_monthsBetween_30 : decode cX0_monthsBetween 30 = .ok (.if_icmp .le 9, 3) := by decide +kernel
theorem dX0_monthsBetween_33 : decode cX0_monthsBetween 33 = .ok (.iload_n 2, 1) := by decide +kernel
theorem dX0_monthsBetween_34 : decode cX0_monthsBetween 34 = .ok (.iconst 1, 1) := by decide +kernel
theorem dX0_monthsBetween_35 : decode cX0_monthsBetween 35 = .ok (.isub, 1) := by decide +kernel
theorem dX0_monthsBetween_36 : decode cX0_monthsBetween 36 = .ok (.goto 4, 3) := by decide +kernel
theorem dX0_monthsBetween_39 : decode cX0_monthsBetween 39 = .ok (.iload_n 2, 1) := by decide +kernel
theorem dX0_monthsBetween_40 : decode cX0_monthsBetween 40 = .ok (.ireturn, 1) := by decide +kernel
theorem dX1_init_0 : decode cX1_init 0 = .ok (.aload_n 0, 1) := by decide +kernel
theorem dX1_init_1 : decode cX1_init 1 = .ok (.invokespecial 3, 3) := by decide +kernel
theorem dX1_init_4 : decode cX1_init 4 = .ok (.aload_n 0, 1) := by decide +kernel
theorem dX1_init_5 : decode cX1_init 5 = .ok (.bipush 20, 2) := by decide +kernel
theorem dX1_init_7 : decode cX1_init 7 = .ok (.newarray .int, 2) := by decide +kernel
theorem dX1_init_9 : decode cX1_init 9 = .ok (.putfield 11, 3) := by decide +kernel
theorem dX1_init_12 : decode cX1_init 12 = .ok (.aload_n 0, 1) := by decide +kernel
theorem dX1_init_13 : decode cX1_init 13 = .ok (.iconst 0, 1) := by decide +kernel
theorem dX1_init_14 : decode cX1_init 14 = .ok (.putfield 15, 3) := by decide +kernel
theorem dX1_init_17 : decode cX1_init 17 = .ok (.return_, 1) := by decide +kernel
theorem dX1_size_0 : decode cX1_size 0 = .ok (.aload_n 0, 1) := by decide +kernel
theorem dX1_size_1 : decode cX1_size 1 = .ok (.getfield 15, 3) := by decide +kernel
theorem dX1_size_4 : decode cX1_size 4 = .ok (.ireturn, 1) := by decide +kernel
theorem dX1_isFull_0 : decode cX1_isFull 0 = .ok (.aload_n 0, 1) := by decide +kernel
theorem dX1_isFull_1 : decode cX1_isFull 1 = .ok (.getfield 15, 3) := by decide +kernel
theorem dX1_isFull_4 : decode cX1_isFull 4 = .ok (.bipush 20, 2) := by decide +kernel
theorem dX1_isFull_6 : decode cX1_isFull 6 = .ok (.if_icmp .lt 7, 3) := by decide +kernel
theorem dX1_isFull_9 : decode cX1_isFull 9 = .ok (.iconst 1, 1) := by decide +kernel
theorem dX1_isFull_10 : decode cX1_isFull 10 = .ok (.goto 4, 3) := by decide +kernel
theorem dX1_isFull_13 : decode cX1_isFull 13 = .ok (.iconst 0, 1) := by decide +kernel
theorem dX1_isFull_14 : decode cX1_isFull 14 = .ok (.ireturn, 1) := by decide +kernel
theorem dX1_empty_0 : decode cX1_empty 0 = .ok (.aload_n 0, 1) := by decide +kernel
theorem dX1_empty_1 : decode cX1_empty 1 = .ok (.iconst 0, 1) := by decide +kernel
theorem dX1_empty_2 : decode cX1_empty 2 = .ok (.putfield 15, 3) := by decide +kernel
theorem dX1_empty_5 : decode cX1_empty 5 = .ok (.return_, 1) := by decide +kernel
theorem dX1_add_0 : decode cX1_add 0 = .ok (.aload_n 0, 1) := by decide +kernel
theorem dX1_add_1 : decode cX1_add 1 = .ok (.getfield 15, 3) := by decide +kernel
theorem dX1_add_4 : decode cX1_add 4 = .ok (.bipush 20, 2) := by decide +kernel
theorem dX1_add_6 : decode cX1_add 6 = .ok (.if_icmp .ge 23, 3) := by decide +kernel
theorem dX1_add_9 : decode cX1_add 9 = .ok (.aload_n 0, 1) := by decide +kernel
theorem dX1_add_10 : decode cX1_add 10 = .ok (.getfield 11, 3) := by decide +kernel
theorem dX1_add_13 : decode cX1_add 13 = .ok (.aload_n 0, 1) := by decide +kernel
theorem dX1_add_14 : decode cX1_add 14 = .ok (.getfield 15, 3) := by decide +kernel
theorem dX1_add_17 : decode cX1_add 17 = .ok (.iload_n 1, 1) := by decide +kernel
theorem dX1_add_18 : decode cX1_add 18 = .ok (.iastore, 1) := by decide +kernel
theorem dX1_add_19 : decode cX1_add 19 = .ok (.aload_n 0, 1) := by decide +kernel
theorem dX1_add_20 : decode cX1_add 20 = .ok (.dup, 1) := by decide +kernel
theorem dX1_add_21 : decode cX1_add 21 = .ok (.getfield 15, 3) := by decide +kernel
theorem dX1_add_24 : decode cX1_add 24 = .ok (.iconst 1, 1) := by decide +kernel
theorem dX1_add_25 : decode cX1_add 25 = .ok (.iadd, 1) := by decide +kernel
theorem dX1_add_26 : decode cX1_add 26 = .ok (.putfield 15, 3) := by decide +kernel
theorem dX1_add_29 : decode cX1_add 29 = .ok (.return_, 1) := by decide +kernel
theorem dX1_addDigits_0 : decode cX1_addDigits 0 = .ok (.iload_n 2, 1) := by decide +kernel
theorem dX1_addDigits_1 : decode cX1_addDigits 1 = .ok (.istore_n 3, 1) := by decide +kernel
theorem dX1_addDigits_2 : decode cX1_addDigits 2 = .ok (.iload_n 3, 1) := by decide +kernel
theorem dX1_addDigits_3 : decode cX1_addDigits 3 = .ok (.ifCond .le 24, 3) := by decide +kernel
theorem dX1_addDigits_6 : decode cX1_addDigits 6 = .ok (.aload_n 0, 1) := by decide +kernel
theorem dX1_addDigits_7 : decode cX1_addDigits 7 = .ok (.bipush 48, 2) := by decide +kernel
theorem dX1_addDigits_9 : decode cX1_addDigits 9 = .ok (.iload_n 1, 1) := by decide +kernel
theorem dX1_addDigits_10 : decode cX1_addDigits 10 = .ok (.iload_n 3, 1) := by decide +kernel
theorem dX1_addDigits_11 : decode cX1_addDigits 11 = .ok (.idiv, 1) := by decide +kernel
theorem dX1_addDigits_12 : decode cX1_addDigits 12 = .ok (.bipush 10, 2) := by decide +kernel
theorem dX1_addDigits_14 : decode cX1_addDigits 14 = .ok (.irem, 1) := by decide +kernel
theorem dX1_addDigits_15 : decode cX1_addDigits 15 = .ok (.iadd, 1) := by decide +kernel
theorem dX1_addDigits_16 : decode cX1_addDigits 16 = .ok (.invokevirtual 19, 3) := by decide +kernel
theorem dX1_addDigits_19 : decode cX1_addDigits 19 = .ok (.iload_n 3, 1) := by decide +kernel
theorem dX1_addDigits_20 : decode cX1_addDigits 20 = .ok (.bipush 10, 2) := by decide +kernel
theorem dX1_addDigits_22 : decode cX1_addDigits 22 = .ok (.idiv, 1) := by decide +kernel
theorem dX1_addDigits_23 : decode cX1_addDigits 23 = .ok (.istore_n 3, 1) := by decide +kernel
theorem dX1_addDigits_24 : decode cX1_addDigits 24 = .ok (.goto (-22), 3) := by decide +kernel
theorem dX1_addDigits_27 : decode cX1_addDigits 27 = .ok (.return_, 1) := by decide +kernel
theorem dX1_at_0 : decode cX1_at 0 = .ok (.iload_n 1, 1) := by decide +kernel
theorem dX1_at_1 : decode cX1_at 1 = .ok (.ifCond .lt 20, 3) := by decide +kernel
theorem dX1_at_4 : decode cX1_at 4 = .ok (.iload_n 1, 1) := by decide +kernel
theorem dX1_at_5 : decode cX1_at 5 = .ok (.aload_n 0, 1) := by decide +kernel
theorem dX1_at_6 : decode cX1_at 6 = .ok (.getfield 15, 3) := by decide +kernel
theorem dX1_at_9 : decode cX1_at 9 = .ok (.if_icmp .ge 12, 3) := by decide +kernel
theorem dX1_at_12 : decode cX1_at 12 = .ok (.aload_n 0, 1) := by decide +kernel
theorem dX1_at_13 : decode cX1_at 13 = .ok (.getfield 11, 3) := by decide +kernel
theorem dX1_at_16 : decode cX1_at 16 = .ok (.iload_n 1, 1) := by decide +kernel
theorem dX1_at_17 : decode cX1_at 17 = .ok (.iaload, 1) := by decide +kernel
theorem dX1_at_18 : decode cX1_at 18 = .ok (.goto 4, 3) := by decide +kernel
theorem dX1_at_21 : decode cX1_at 21 = .ok (.iconst (-1), 1) := by decide +kernel
theorem dX1_at_22 : decode cX1_at 22 = .ok (.ireturn, 1) := by decide +kernel
theorem dX1_fitting_0 : decode cX1_fitting 0 = .ok (.aload_n 0, 1) := by decide +kernel
theorem dX1_fitting_1 : decode cX1_fitting 1 = .ok (.getfield 15, 3) := by decide +kernel
theorem dX1_fitting_4 : decode cX1_fitting 4 = .ok (.aload_n 1, 1) := by decide +kernel
theorem dX1_fitting_5 : decode cX1_fitting 5 = .ok (.invokevirtual 23, 3) := by decide +kernel
theorem dX1_fitting_8 : decode cX1_fitting 8 = .ok (.invokestatic 28, 3) := by decide +kernel
theorem dX1_fitting_11 : decode cX1_fitting 11 = .ok (.istore_n 2, 1) := by decide +kernel
theorem dX1_fitting_12 : decode cX1_fitting 12 = .ok (.iconst 0, 1) := by decide +kernel
theorem dX1_fitting_13 : decode cX1_fitting 13 = .ok (.istore_n 3, 1) := by decide +kernel
theorem dX1_fitting_14 : decode cX1_fitting 14 = .ok (.iload_n 3, 1) := by decide +kernel
theorem dX1_fitting_15 : decode cX1_fitting 15 = .ok (.iload_n 2, 1) := by decide +kernel
theorem dX1_fitting_16 : decode cX1_fitting 16 = .ok (.if_icmp .ge 25, 3) := by decide +kernel
theorem dX1_fitting_19 : decode cX1_fitting 19 = .ok (.aload_n 0, 1) := by decide +kernel
theorem dX1_fitting_20 : decode cX1_fitting 20 = .ok (.iload_n 3, 1) := by decide +kernel
theorem dX1_fitting_21 : decode cX1_fitting 21 = .ok (.invokevirtual 34, 3) := by decide +kernel
theorem dX1_fitting_24 : decode cX1_fitting 24 = .ok (.aload_n 1, 1) := by decide +kernel
theorem dX1_fitting_25 : decode cX1_fitting 25 = .ok (.iload_n 3, 1) := by decide +kernel
theorem dX1_fitting_26 : decode cX1_fitting 26 = .ok (.invokevirtual 38, 3) := by decide +kernel
theorem dX1_fitting_29 : decode cX1_fitting 29 = .ok (.invokestatic 42, 3) := by decide +kernel
theorem dX1_fitting_32 : decode cX1_fitting 32 = .ok (.ifCond .eq 9, 3) := by decide +kernel
theorem dX1_fitting_35 : decode cX1_fitting 35 = .ok (.iinc 3 1, 3) := by decide +kernel
theorem dX1_fitting_38 : decode cX1_fitting 38 = .ok (.goto (-24), 3) := by decide +kernel
theorem dX1_fitting_41 : decode cX1_fitting 41 = .ok (.iload_n 3, 1) := by decide +kernel
theorem dX1_fitting_42 : decode cX1_fitting 42 = .ok (.ireturn, 1) := by decide +kernel
theorem dX1_fits_0 : decode cX1_fits 0 = .ok (.iload_n 1, 1) := by decide +kernel
theorem dX1_fits_1 : decode cX1_fits 1 = .ok (.bipush 48, 2) := by decide +kernel
theorem dX1_fits_3 : decode cX1_fits 3 = .ok (.if_icmp .ne 23, 3) := by decide +kernel
theorem dX1_fits_6 : decode cX1_fits 6 = .ok (.iload_n 0, 1) := by decide +kernel
theorem dX1_fits_7 : decode cX1_fits 7 = .ok (.bipush 48, 2) := by decide +kernel
theorem dX1_fits_9 : decode cX1_fits 9 = .ok (.if_icmp .lt 13, 3) := by decide +kernel
theorem dX1_fits_12 : decode cX1_fits 12 = .ok (.iload_n 0, 1) := by decide +kernel
theorem dX1_fits_13 : decode cX1_fits 13 = .ok (.bipush 57, 2) := by decide +kernel
theorem dX1_fits_15 : decode cX1_fits 15 = .ok (.if_icmp .gt 7, 3) := by decide +kernel
theorem dX1_fits_18 : decode cX1_fits 18 = .ok (.iconst 1, 1) := by decide +kernel
theorem dX1_fits_19 : decode cX1_fits 19 = .ok (.goto 17, 3) := by decide +kernel
theorem dX1_fits_22 : decode cX1_fits 22 = .ok (.iconst 0, 1) := by decide +kernel
theorem dX1_fits_23 : decode cX1_fits 23 = .ok (.goto 13, 3) := by decide +kernel
theorem dX1_fits_26 : decode cX1_fits 26 = .ok (.iload_n 0, 1) := by decide +kernel
theorem dX1_fits_27 : decode cX1_fits 27 = .ok (.iload_n 1, 1) := by decide +kernel
theorem dX1_fits_28 : decode cX1_fits 28 = .ok (.if_icmp .ne 7, 3) := by decide +kernel
theorem dX1_fits_31 : decode cX1_fits 31 = .ok (.iconst 1, 1) := by decide +kernel
theorem dX1_fits_32 : decode cX1_fits 32 = .ok (.goto 4, 3) := by decide +kernel
theorem dX1_fits_35 : decode cX1_fits 35 = .ok (.iconst 0, 1) := by decide +kernel
theorem dX1_fits_36 : decode cX1_fits 36 = .ok (.ireturn, 1) := by decide +kernel
theorem dX1_digits_0 : decode cX1_digits 0 = .ok (.iconst 0, 1) := by decide +kernel
theorem dX1_digits_1 : decode cX1_digits 1 = .ok (.istore_n 3, 1) := by decide +kernel
theorem dX1_digits_2 : decode cX1_digits 2 = .ok (.iload_n 1, 1) := by decide +kernel
theorem dX1_digits_3 : decode cX1_digits 3 = .ok (.istore 4, 2) := by decide +kernel
theorem dX1_digits_5 : decode cX1_digits 5 = .ok (.iload 4, 2) := by decide +kernel
theorem dX1_digits_7 : decode cX1_digits 7 = .ok (.iload_n 1, 1) := by decide +kernel
theorem dX1_digits_8 : decode cX1_digits 8 = .ok (.iload_n 2, 1) := by decide +kernel
theorem dX1_digits_9 : decode cX1_digits 9 = .ok (.iadd, 1) := by decide +kernel
theorem dX1_digits_10 : decode cX1_digits 10 = .ok (.if_icmp .ge 24, 3) := by decide +kernel
theorem dX1_digits_13 : decode cX1_digits 13 = .ok (.bipush 10, 2) := by decide +kernel
theorem dX1_digits_15 : decode cX1_digits 15 = .ok (.iload_n 3, 1) := by decide +kernel
theorem dX1_digits_16 : decode cX1_digits 16 = .ok (.imul, 1) := by decide +kernel
theorem dX1_digits_17 : decode cX1_digits 17 = .ok (.aload_n 0, 1) := by decide +kernel
theorem dX1_digits_18 : decode cX1_digits 18 = .ok (.iload 4, 2) := by decide +kernel
theorem dX1_digits_20 : decode cX1_digits 20 = .ok (.invokevirtual 34, 3) := by decide +kernel
theorem dX1_digits_23 : decode cX1_digits 23 = .ok (.iadd, 1) := by decide +kernel
theorem dX1_digits_24 : decode cX1_digits 24 = .ok (.bipush 48, 2) := by decide +kernel
theorem dX1_digits_26 : decode cX1_digits 26 = .ok (.isub, 1) := by decide +kernel
theorem dX1_digits_27 : decode cX1_digits 27 = .ok (.istore_n 3, 1) := by decide +kernel
theorem dX1_digits_28 : decode cX1_digits 28 = .ok (.iinc 4 1, 3) := by decide +kernel
theorem dX1_digits_31 : decode cX1_digits 31 = .ok (.goto (-26), 3) := by decide +kernel
theorem dX1_digits_34 : decode cX1_digits 34 = .ok (.iload_n 3, 1) := by decide +kernel
theorem dX1_digits_35 : decode cX1_digits 35 = .ok (.ireturn, 1) := by decide +kernel
theorem dX2_init_0 : decode cX2_init 0 = .ok (.aload_n 0, 1) := by decide +kernel
theorem dX2_init_1 : decode cX2_init 1 = .ok (.invokespecial 1, 3) := by decide +kernel
theorem dX2_init_4 : decode cX2_init 4 = .ok (.aload_n 0, 1) := by decide +kernel
theorem dX2_init_5 : decode cX2_init 5 = .ok (.sipush 366, 3) := by decide +kernel
theorem dX2_init_8 : decode cX2_init 8 = .ok (.newarray .int, 2) := by decide +kernel
theorem dX2_init_10 : decode cX2_init 10 = .ok (.putfield 9, 3) := by decide +kernel
theorem dX2_init_13 : decode cX2_init 13 = .ok (.aload_n 0, 1) := by decide +kernel
theorem dX2_init_14 : decode cX2_init 14 = .ok (.iconst 0, 1) := by decide +kernel
theorem dX2_init_15 : decode cX2_init 15 = .ok (.putfield 13, 3) := by decide +kernel
theorem dX2_init_18 : decode cX2_init 18 = .ok (.aload_n 0, 1) := by decide +kernel
theorem dX2_init_19 : decode cX2_init 19 = .ok (.iconst 0, 1) := by decide +kernel
theorem dX2_init_20 : decode cX2_init 20 = .ok (.putfield 17, 3) := by decide +kernel
theorem dX2_init_23 : decode cX2_init 23 = .ok (.return_, 1) := by decide +kernel
theorem dX2_forget_0 : decode cX2_forget 0 = .ok (.aload_n 0, 1) := by decide +kernel
theorem dX2_forget_1 : decode cX2_forget 1 = .ok (.iconst 0, 1) := by decide +kernel
theorem dX2_forget_2 : decode cX2_forget 2 = .ok (.putfield 17, 3) := by decide +kernel
theorem dX2_forget_5 : decode cX2_forget 5 = .ok (.return_, 1) := by decide +kernel
theorem dX2_covers_0 : decode cX2_covers 0 = .ok (.iload_n 1, 1) := by decide +kernel
theorem dX2_covers_1 : decode cX2_covers 1 = .ok (.aload_n 0, 1) := by decide +kernel
theorem dX2_covers_2 : decode cX2_covers 2 = .ok (.getfield 13, 3) := by decide +kernel
theorem dX2_covers_5 : decode cX2_covers 5 = .ok (.if_icmp .lt 20, 3) := by decide +kernel
theorem dX2_covers_8 : decode cX2_covers 8 = .ok (.iload_n 1, 1) := by decide +kernel
theorem dX2_covers_9 : decode cX2_covers 9 = .ok (.aload_n 0, 1) := by decide +kernel
theorem dX2_covers_10 : decode cX2_covers 10 = .ok (.getfield 13, 3) := by decide +kernel
theorem dX2_covers_13 : decode cX2_covers 13 = .ok (.isub, 1) := by decide +kernel
theorem dX2_covers_14 : decode cX2_covers 14 = .ok (.aload_n 0, 1) := by decide +kernel
theorem dX2_covers_15 : decode cX2_covers 15 = .ok (.getfield 17, 3) := by decide +kernel
theorem dX2_covers_18 : decode cX2_covers 18 = .ok (.if_icmp .ge 7, 3) := by decide +kernel
theorem dX2_covers_21 : decode cX2_covers 21 = .ok (.iconst 1, 1) := by decide +kernel
theorem dX2_covers_22 : decode cX2_covers 22 = .ok (.goto 4, 3) := by decide +kernel
theorem dX2_covers_25 : decode cX2_covers 25 = .ok (.iconst 0, 1) := by decide +kernel
theorem dX2_covers_26 : decode cX2_covers 26 = .ok (.ireturn, 1) := by decide +kernel
theorem dX2_isMarked_0 : decode cX2_isMarked 0 = .ok (.aload_n 0, 1) := by decide +kernel
theorem dX2_isMarked_1 : decode cX2_isMarked 1 = .ok (.iload_n 1, 1) := by decide +kernel
theorem dX2_isMarked_2 : decode cX2_isMarked 2 = .ok (.invokevirtual 20, 3) := by decide +kernel
theorem dX2_isMarked_5 : decode cX2_isMarked 5 = .ok (.ifCond .eq 22, 3) := by decide +kernel
theorem dX2_isMarked_8 : decode cX2_isMarked 8 = .ok (.aload_n 0, 1) := by decide +kernel
theorem dX2_isMarked_9 : decode cX2_isMarked 9 = .ok (.getfield 9, 3) := by decide +kernel
theorem dX2_isMarked_12 : decode cX2_isMarked 12 = .ok (.iload_n 1, 1) := by decide +kernel
theorem dX2_isMarked_13 : decode cX2_isMarked 13 = .ok (.aload_n 0, 1) := by decide +kernel
theorem dX2_isMarked_14 : decode cX2_isMarked 14 = .ok (.getfield 13, 3) := by decide +kernel
theorem dX2_isMarked_17 : decode cX2_isMarked 17 = .ok (.isub, 1) := by decide +kernel
theorem dX2_isMarked_18 : decode cX2_isMarked 18 = .ok (.iaload, 1) := by decide +kernel
theorem dX2_isMarked_19 : decode cX2_isMarked 19 = .ok (.iconst 1, 1) := by decide +kernel
theorem dX2_isMarked_20 : decode cX2_isMarked 20 = .ok (.if_icmp .ne 7, 3) := by decide +kernel
theorem dX2_isMarked_23 : decode cX2_isMarked 23 = .ok (.iconst 1, 1) := by decide +kernel
theorem dX2_isMarked_24 : decode cX2_isMarked 24 = .ok (.goto 4, 3) := by decide +kernel
theorem dX2_isMarked_27 : decode cX2_isMarked 27 = .ok (.iconst 0, 1) := by decide +kernel
theorem dX2_isMarked_28 : decode cX2_isMarked 28 = .ok (.ireturn, 1) := by decide +kernel
theorem dX2_mark_0 : decode cX2_mark 0 = .ok (.aload_n 0, 1) := by decide +kernel
theorem dX2_mark_1 : decode cX2_mark 1 = .ok (.iload_n 1, 1) := by decide +kernel
theorem dX2_mark_2 : decode cX2_mark 2 = .ok (.invokestatic 24, 3) := by decide +kernel
theorem dX2_mark_5 : decode cX2_mark 5 = .ok (.putfield 13, 3) := by decide +kernel
theorem dX2_mark_8 : decode cX2_mark 8 = .ok (.aload_n 0, 1) := by decide +kernel
theorem dX2_mark_9 : decode cX2_mark 9 = .ok (.iload_n 1, 1) := by decide +kernel
theorem dX2_mark_10 : decode cX2_mark 10 = .ok (.invokestatic 30, 3) := by decide +kernel
theorem dX2_mark_13 : decode cX2_mark 13 = .ok (.putfield 17, 3) := by decide +kernel
theorem dX2_mark_16 : decode cX2_mark 16 = .ok (.aload_n 0, 1) := by decide +kernel
theorem dX2_mark_17 : decode cX2_mark 17 = .ok (.getfield 9, 3) := by decide +kernel
theorem dX2_mark_20 : decode cX2_mark 20 = .ok (.iconst 0, 1) := by decide +kernel
theorem dX2_mark_21 : decode cX2_mark 21 = .ok (.invokestatic 33, 3) := by decide +kernel
theorem dX2_mark_24 : decode cX2_mark 24 = .ok (.iconst 0, 1) := by decide +kernel
theorem dX2_mark_25 : decode cX2_mark 25 = .ok (.istore_n 3, 1) := by decide +kernel
theorem dX2_mark_26 : decode cX2_mark 26 = .ok (.iload_n 3, 1) := by decide +kernel
theorem dX2_mark_27 : decode cX2_mark 27 = .ok (.aload_n 2, 1) := by decide +kernel
theorem dX2_mark_28 : decode cX2_mark 28 = .ok (.invokevirtual 39, 3) := by decide +kernel
theorem dX2_mark_31 : decode cX2_mark 31 = .ok (.if_icmp .ge 53, 3) := by decide +kernel
theorem dX2_mark_34 : decode cX2_mark 34 = .ok (.aload_n 2, 1) := by decide +kernel
theorem dX2_mark_35 : decode cX2_mark 35 = .ok (.iload_n 3, 1) := by decide +kernel
theorem dX2_mark_36 : decode cX2_mark 36 = .ok (.invokevirtual 45, 3) := by decide +kernel
theorem dX2_mark_39 : decode cX2_mark 39 = .ok (.checkcast 49, 3) := by decide +kernel
theorem dX2_mark_42 : decode cX2_mark 42 = .ok (.astore 4, 2) := by decide +kernel
theorem dX2_mark_44 : decode cX2_mark 44 = .ok (.aload_n 0, 1) := by decide +kernel
theorem dX2_mark_45 : decode cX2_mark 45 = .ok (.aload 4, 2) := by decide +kernel
theorem dX2_mark_47 : decode cX2_mark 47 = .ok (.iload_n 1, 1) := by decide +kernel
theorem dX2_mark_48 : decode cX2_mark 48 = .ok (.iconst 1, 1) := by decide +kernel
theorem dX2_mark_49 : decode cX2_mark 49 = .ok (.isub, 1) := by decide +kernel
theorem dX2_mark_50 : decode cX2_mark 50 = .ok (.invokevirtual 51, 3) := by decide +kernel
theorem dX2_mark_53 : decode cX2_mark 53 = .ok (.invokevirtual 54, 3) := by decide +kernel
theorem dX2_mark_56 : decode cX2_mark 56 = .ok (.aload_n 0, 1) := by decide +kernel
theorem dX2_mark_57 : decode cX2_mark 57 = .ok (.aload 4, 2) := by decide +kernel
theorem dX2_mark_59 : decode cX2_mark 59 = .ok (.iload_n 1, 1) := by decide +kernel
theorem dX2_mark_60 : decode cX2_mark 60 = .ok (.invokevirtual 51, 3) := by decide +kernel
theorem dX2_mark_63 : decode cX2_mark 63 = .ok (.invokevirtual 54, 3) := by decide +kernel
theorem dX2_mark_66 : decode cX2_mark 66 = .ok (.aload_n 0, 1) := by decide +kernel
theorem dX2_mark_67 : decode cX2_mark 67 = .ok (.aload 4, 2) := by decide +kernel
theorem dX2_mark_69 : decode cX2_mark 69 = .ok (.iload_n 1, 1) := by decide +kernel
theorem dX2_mark_70 : decode cX2_mark 70 = .ok (.iconst 1, 1) := by decide +kernel
theorem dX2_mark_71 : decode cX2_mark 71 = .ok (.iadd, 1) := by decide +kernel
theorem dX2_mark_72 : decode cX2_mark 72 = .ok (.invokevirtual 51, 3) := by decide +kernel
theorem dX2_mark_75 : decode cX2_mark 75 = .ok (.invokevirtual 54, 3) := by decide +kernel
theorem dX2_mark_78 : decode cX2_mark 78 = .ok (.iinc 3 1, 3) := by decide +kernel
theorem dX2_mark_81 : decode cX2_mark 81 = .ok (.goto (-55), 3) := by decide +kernel
theorem dX2_mark_84 : decode cX2_mark 84 = .ok (.return_, 1) := by decide +kernel
theorem dX2_markDay_0 : decode cX2_markDay 0 = .ok (.aload_n 0, 1) := by decide +kernel
theorem dX2_markDay_1 : decode cX2_markDay 1 = .ok (.iload_n 1, 1) := by decide +kernel
theorem dX2_markDay_2 : decode cX2_markDay 2 = .ok (.invokevirtual 20, 3) := by decide +kernel
theorem dX2_markDay_5 : decode cX2_markDay 5 = .ok (.ifCond .eq 15, 3) := by decide +kernel
theorem dX2_markDay_8 : decode cX2_markDay 8 = .ok (.aload_n 0, 1) := by decide +kernel
theorem dX2_markDay_9 : decode cX2_markDay 9 = .ok (.getfield 9, 3) := by decide +kernel
theorem dX2_markDay_12 : decode cX2_markDay 12 = .ok (.iload_n 1, 1) := by decide +kernel
theorem dX2_markDay_13 : decode cX2_markDay 13 = .ok (.aload_n 0, 1) := by decide +kernel
theorem dX2_markDay_14 : decode cX2_markDay 14 = .ok (.getfield 13, 3) := by decide +kernel
theorem dX2_markDay_17 : decode cX2_markDay 17 = .ok (.isub, 1) := by decide +kernel
theorem dX2_markDay_18 : decode cX2_markDay 18 = .ok (.iconst 1, 1) := by decide +kernel
theorem dX2_markDay_19 : decode cX2_markDay 19 = .ok (.iastore, 1) := by decide +kernel
theorem dX2_markDay_20 : decode cX2_markDay 20 = .ok (.return_, 1) := by decide +kernel
theorem dX3_init_0 : decode cX3_init 0 = .ok (.aload_n 0, 1) := by decide +kernel
theorem dX3_init_1 : decode cX3_init 1 = .ok (.invokespecial 3, 3) := by decide +kernel
theorem dX3_init_4 : decode cX3_init 4 = .ok (.aload_n 0, 1) := by decide +kernel
theorem dX3_init_5 : decode cX3_init 5 = .ok (.iload_n 1, 1) := by decide +kernel
theorem dX3_init_6 : decode cX3_init 6 = .ok (.putfield 9, 3) := by decide +kernel
theorem dX3_init_9 : decode cX3_init 9 = .ok (.aload_n 0, 1) := by decide +kernel
theorem dX3_init_10 : decode cX3_init 10 = .ok (.iload_n 2, 1) := by decide +kernel
theorem dX3_init_11 : decode cX3_init 11 = .ok (.putfield 15, 3) := by decide +kernel
theorem dX3_init_14 : decode cX3_init 14 = .ok (.aload_n 0, 1) := by decide +kernel
theorem dX3_init_15 : decode cX3_init 15 = .ok (.iload_n 3, 1) := by decide +kernel
theorem dX3_init_16 : decode cX3_init 16 = .ok (.putfield 18, 3) := by decide +kernel
theorem dX3_init_19 : decode cX3_init 19 = .ok (.aload_n 0, 1) := by decide +kernel
theorem dX3_init_20 : decode cX3_init 20 = .ok (.iload 4, 2) := by decide +kernel
theorem dX3_init_22 : decode cX3_init 22 = .ok (.putfield 21, 3) := by decide +kernel
theorem dX3_init_25 : decode cX3_init 25 = .ok (.return_, 1) := by decide +kernel
theorem dX3_isRule_0 : decode cX3_isRule 0 = .ok (.iload_n 0, 1) := by decide +kernel
theorem dX3_isRule_1 : decode cX3_isRule 1 = .ok (.tableswitch 102 0 3 #[31, 49, 67, 31], 31) := by decide +kernel
theorem dX3_isRule_32 : decode cX3_isRule 32 = .ok (.sipush 2000, 3) := by decide +kernel
theorem dX3_isRule_35 : decode cX3_isRule 35 = .ok (.iload_n 1, 1) := by decide +kernel
theorem dX3_isRule_36 : decode cX3_isRule 36 = .ok (.iload_n 2, 1) := by decide +kernel
theorem dX3_isRule_37 : decode cX3_isRule 37 = .ok (.invokestatic 24, 3) := by decide +kernel
theorem dX3_isRule_40 : decode cX3_isRule 40 = .ok (.iconst (-1), 1) := by decide +kernel
theorem dX3_isRule_41 : decode cX3_isRule 41 = .ok (.if_icmp .eq 7, 3) := by decide +kernel
theorem dX3_isRule_44 : decode cX3_isRule 44 = .ok (.iconst 1, 1) := by decide +kernel
theorem dX3_isRule_45 : decode cX3_isRule 45 = .ok (.goto 4, 3) := by decide +kernel
theorem dX3_isRule_48 : decode cX3_isRule 48 = .ok (.iconst 0, 1) := by decide +kernel
theorem dX3_isRule_49 : decode cX3_isRule 49 = .ok (.ireturn, 1) := by decide +kernel
theorem dX3_isRule_50 : decode cX3_isRule 50 = .ok (.iload_n 1, 1) := by decide +kernel
theorem dX3_isRule_51 : decode cX3_isRule 51 = .ok (.bipush (-100), 2) := by decide +kernel
theorem dX3_isRule_53 : decode cX3_isRule 53 = .ok (.if_icmp .lt 13, 3) := by decide +kernel
theorem dX3_isRule_56 : decode cX3_isRule 56 = .ok (.iload_n 1, 1) := by decide +kernel
theorem dX3_isRule_57 : decode cX3_isRule 57 = .ok (.bipush 100, 2) := by decide +kernel
theorem dX3_isRule_59 : decode cX3_isRule 59 = .ok (.if_icmp .gt 7, 3) := by decide +kernel
theorem dX3_isRule_62 : decode cX3_isRule 62 = .ok (.iconst 1, 1) := by decide +kernel
theorem dX3_isRule_63 : decode cX3_isRule 63 = .ok (.goto 4, 3) := by decide +kernel
theorem dX3_isRule_66 : decode cX3_isRule 66 = .ok (.iconst 0, 1) := by decide +kernel
theorem dX3_isRule_67 : decode cX3_isRule 67 = .ok (.ireturn, 1) := by decide +kernel
theorem dX3_isRule_68 : decode cX3_isRule 68 = .ok (.iload_n 1, 1) := by decide +kernel
theorem dX3_isRule_69 : decode cX3_isRule 69 = .ok (.invokestatic 30, 3) := by decide +kernel
theorem dX3_isRule_72 : decode cX3_isRule 72 = .ok (.ifCond .eq 29, 3) := by decide +kernel
theorem dX3_isRule_75 : decode cX3_isRule 75 = .ok (.iload_n 2, 1) := by decide +kernel
theorem dX3_isRule_76 : decode cX3_isRule 76 = .ok (.invokestatic 34, 3) := by decide +kernel
theorem dX3_isRule_79 : decode cX3_isRule 79 = .ok (.ifCond .eq 22, 3) := by decide +kernel
theorem dX3_isRule_82 : decode cX3_isRule 82 = .ok (.iload_n 3, 1) := by decide +kernel
theorem dX3_isRule_83 : decode cX3_isRule 83 = .ok (.iconst (-1), 1) := by decide +kernel
theorem dX3_isRule_84 : decode cX3_isRule 84 = .ok (.if_icmp .eq 13, 3) := by decide +kernel
theorem dX3_isRule_87 : decode cX3_isRule 87 = .ok (.iload_n 3, 1) := by decide +kernel
theorem dX3_isRule_88 : decode cX3_isRule 88 = .ok (.iconst 1, 1) := by decide +kernel
theorem dX3_isRule_89 : decode cX3_isRule 89 = .ok (.if_icmp .lt 12, 3) := by decide +kernel
theorem dX3_isRule_92 : decode cX3_isRule 92 = .ok (.iload_n 3, 1) := by decide +kernel
theorem dX3_isRule_93 : decode cX3_isRule 93 = .ok (.iconst 4, 1) := by decide +kernel
theorem dX3_isRule_94 : decode cX3_isRule 94 = .ok (.if_icmp .gt 7, 3) := by decide +kernel
theorem dX3_isRule_97 : decode cX3_isRule 97 = .ok (.iconst 1, 1) := by decide +kernel
theorem dX3_isRule_98 : decode cX3_isRule 98 = .ok (.goto 4, 3) := by decide +kernel
theorem dX3_isRule_101 : decode cX3_isRule 101 = .ok (.iconst 0, 1) := by decide +kernel
theorem dX3_isRule_102 : decode cX3_isRule 102 = .ok (.ireturn, 1) := by decide +kernel
theorem dX3_isRule_103 : decode cX3_isRule 103 = .ok (.iconst 0, 1) := by decide +kernel
theorem dX3_isRule_104 : decode cX3_isRule 104 = .ok (.ireturn, 1) := by decide +kernel
theorem dX3_givesDay_0 : decode cX3_givesDay 0 = .ok (.iload_n 1, 1) := by decide +kernel
theorem dX3_givesDay_1 : decode cX3_givesDay 1 = .ok (.invokestatic 37, 3) := by decide +kernel
theorem dX3_givesDay_4 : decode cX3_givesDay 4 = .ok (.istore_n 2, 1) := by decide +kernel
theorem dX3_givesDay_5 : decode cX3_givesDay 5 = .ok (.aload_n 0, 1) := by decide +kernel
theorem dX3_givesDay_6 : decode cX3_givesDay 6 = .ok (.iload_n 2, 1) := by decide +kernel
theorem dX3_givesDay_7 : decode cX3_givesDay 7 = .ok (.invokevirtual 41, 3) := by decide +kernel
theorem dX3_givesDay_10 : decode cX3_givesDay 10 = .ok (.iload_n 1, 1) := by decide +kernel
theorem dX3_givesDay_11 : decode cX3_givesDay 11 = .ok (.if_icmp .eq 25, 3) := by decide +kernel
theorem dX3_givesDay_14 : decode cX3_givesDay 14 = .ok (.aload_n 0, 1) := by decide +kernel
theorem dX3_givesDay_15 : decode cX3_givesDay 15 = .ok (.iload_n 2, 1) := by decide +kernel
theorem dX3_givesDay_16 : decode cX3_givesDay 16 = .ok (.iconst 1, 1) := by decide +kernel
theorem dX3_givesDay_17 : decode cX3_givesDay 17 = .ok (.isub, 1) := by decide +kernel
theorem dX3_givesDay_18 : decode cX3_givesDay 18 = .ok (.invokevirtual 41, 3) := by decide +kernel
theorem dX3_givesDay_21 : decode cX3_givesDay 21 = .ok (.iload_n 1, 1) := by decide +kernel
theorem dX3_givesDay_22 : decode cX3_givesDay 22 = .ok (.if_icmp .eq 14, 3) := by decide +kernel
theorem dX3_givesDay_25 : decode cX3_givesDay 25 = .ok (.aload_n 0, 1) := by decide +kernel
theorem dX3_givesDay_26 : decode cX3_givesDay 26 = .ok (.iload_n 2, 1) := by decide +kernel
theorem dX3_givesDay_27 : decode cX3_givesDay 27 = .ok (.iconst 1, 1) := by decide +kernel
theorem dX3_givesDay_28 : decode cX3_givesDay 28 = .ok (.iadd, 1) := by decide +kernel
theorem dX3_givesDay_29 : decode cX3_givesDay 29 = .ok (.invokevirtual 41, 3) := by decide +kernel
theorem dX3_givesDay_32 : decode cX3_givesDay 32 = .ok (.iload_n 1, 1) := by decide +kernel
theorem dX3_givesDay_33 : decode cX3_givesDay 33 = .ok (.if_icmp .ne 7, 3) := by decide +kernel
theorem dX3_givesDay_36 : decode cX3_givesDay 36 = .ok (.iconst 1, 1) := by decide +kernel
theorem dX3_givesDay_37 : decode cX3_givesDay 37 = .ok (.goto 4, 3) := by decide +kernel
theorem dX3_givesDay_40 : decode cX3_givesDay 40 = .ok (.iconst 0, 1) := by decide +kernel
theorem dX3_givesDay_41 : decode cX3_givesDay 41 = .ok (.ireturn, 1) := by decide +kernel
theorem dX3_dayFor_0 : decode cX3_dayFor 0 = .ok (.aload_n 0, 1) := by decide +kernel
theorem dX3_dayFor_1 : decode cX3_dayFor 1 = .ok (.getfield 9, 3) := by decide +kernel
theorem dX3_dayFor_4 : decode cX3_dayFor 4 = .ok (.tableswitch 67 0 2 #[28, 41, 50], 28) := by decide +kernel
theorem dX3_dayFor_32 : decode cX3_dayFor 32 = .ok (.iload_n 1, 1) := by decide +kernel
theorem dX3_dayFor_33 : decode cX3_dayFor 33 = .ok (.aload_n 0, 1) := by decide +kernel
theorem dX3_dayFor_34 : decode cX3_dayFor 34 = .ok (.getfield 15, 3) := by decide +kernel
theorem dX3_dayFor_37 : decode cX3_dayFor 37 = .ok (.aload_n 0, 1) := by decide +kernel
theorem dX3_dayFor_38 : decode cX3_dayFor 38 = .ok (.getfield 18, 3) := by decide +kernel
theorem dX3_dayFor_41 : decode cX3_dayFor 41 = .ok (.invokestatic 24, 3) := by decide +kernel
theorem dX3_dayFor_44 : decode cX3_dayFor 44 = .ok (.ireturn, 1) := by decide +kernel
theorem dX3_dayFor_45 : decode cX3_dayFor 45 = .ok (.aload_n 0, 1) := by decide +kernel
theorem dX3_dayFor_46 : decode cX3_dayFor 46 = .ok (.iload_n 1, 1) := by decide +kernel
theorem dX3_dayFor_47 : decode cX3_dayFor 47 = .ok (.invokestatic 44, 3) := by decide +kernel
theorem dX3_dayFor_50 : decode cX3_dayFor 50 = .ok (.invokevirtual 47, 3) := by decide +kernel
theorem dX3_dayFor_53 : decode cX3_dayFor 53 = .ok (.ireturn, 1) := by decide +kernel
theorem dX3_dayFor_54 : decode cX3_dayFor 54 = .ok (.iload_n 1, 1) := by decide +kernel
theorem dX3_dayFor_55 : decode cX3_dayFor 55 = .ok (.aload_n 0, 1) := by decide +kernel
theorem dX3_dayFor_56 : decode cX3_dayFor 56 = .ok (.getfield 15, 3) := by decide +kernel
theorem dX3_dayFor_59 : decode cX3_dayFor 59 = .ok (.aload_n 0, 1) := by decide +kernel
theorem dX3_dayFor_60 : decode cX3_dayFor 60 = .ok (.getfield 18, 3) := by decide +kernel
theorem dX3_dayFor_63 : decode cX3_dayFor 63 = .ok (.aload_n 0, 1) := by decide +kernel
theorem dX3_dayFor_64 : decode cX3_dayFor 64 = .ok (.getfield 21, 3) := by decide +kernel
theorem dX3_dayFor_67 : decode cX3_dayFor 67 = .ok (.invokestatic 50, 3) := by decide +kernel
theorem dX3_dayFor_70 : decode cX3_dayFor 70 = .ok (.ireturn, 1) := by decide +kernel
theorem dX3_dayFor_71 : decode cX3_dayFor 71 = .ok (.iload_n 1, 1) := by decide +kernel
theorem dX3_dayFor_72 : decode cX3_dayFor 72 = .ok (.aload_n 0, 1) := by decide +kernel
theorem dX3_dayFor_73 : decode cX3_dayFor 73 = .ok (.getfield 15, 3) := by decide +kernel
theorem dX3_dayFor_76 : decode cX3_dayFor 76 = .ok (.aload_n 0, 1) := by decide +kernel
theorem dX3_dayFor_77 : decode cX3_dayFor 77 = .ok (.getfield 18, 3) := by decide +kernel
theorem dX3_dayFor_80 : decode cX3_dayFor 80 = .ok (.invokestatic 24, 3) := by decide +kernel
theorem dX3_dayFor_83 : decode cX3_dayFor 83 = .ok (.invokestatic 54, 3) := by decide +kernel
theorem dX3_dayFor_86 : decode cX3_dayFor 86 = .ok (.ireturn, 1) := by decide +kernel
theorem dX3_behindEaster_0 : decode cX3_behindEaster 0 = .ok (.iload_n 1, 1) := by decide +kernel
theorem dX3_behindEaster_1 : decode cX3_behindEaster 1 = .ok (.iconst (-1), 1) := by decide +kernel
theorem dX3_behindEaster_2 : decode cX3_behindEaster 2 = .ok (.if_icmp .ne 7, 3) := by decide +kernel
theorem dX3_behindEaster_5 : decode cX3_behindEaster 5 = .ok (.iconst (-1), 1) := by decide +kernel
theorem dX3_behindEaster_6 : decode cX3_behindEaster 6 = .ok (.goto 9, 3) := by decide +kernel
theorem dX3_behindEaster_9 : decode cX3_behindEaster 9 = .ok (.iload_n 1, 1) := by decide +kernel
theorem dX3_behindEaster_10 : decode cX3_behindEaster 10 = .ok (.aload_n 0, 1) := by decide +kernel
theorem dX3_behindEaster_11 : decode cX3_behindEaster 11 = .ok (.getfield 15, 3) := by decide +kernel
theorem dX3_behindEaster_14 : decode cX3_behindEaster 14 = .ok (.iadd, 1) := by decide +kernel
theorem dX3_behindEaster_15 : decode cX3_behindEaster 15 = .ok (.ireturn, 1) := by decide +kernel
theorem dX3_observed_0 : decode cX3_observed 0 = .ok (.iload_n 0, 1) := by decide +kernel
theorem dX3_observed_1 : decode cX3_observed 1 = .ok (.iconst (-1), 1) := by decide +kernel
theorem dX3_observed_2 : decode cX3_observed 2 = .ok (.if_icmp .ne 5, 3) := by decide +kernel
theorem dX3_observed_5 : decode cX3_observed 5 = .ok (.iconst (-1), 1) := by decide +kernel
theorem dX3_observed_6 : decode cX3_observed 6 = .ok (.ireturn, 1) := by decide +kernel
theorem dX3_observed_7 : decode cX3_observed 7 = .ok (.iload_n 0, 1) := by decide +kernel
theorem dX3_observed_8 : decode cX3_observed 8 = .ok (.invokestatic 57, 3) := by decide +kernel
theorem dX3_observed_11 : decode cX3_observed 11 = .ok (.lookupswitch 33 #[(6, 25), (7, 29)], 25) := by decide +kernel
theorem dX3_observed_36 : decode cX3_observed 36 = .ok (.iload_n 0, 1) := by decide +kernel
theorem dX3_observed_37 : decode cX3_observed 37 = .ok (.iconst 1, 1) := by decide +kernel
theorem dX3_observed_38 : decode cX3_observed 38 = .ok (.isub, 1) := by decide +kernel
theorem dX3_observed_39 : decode cX3_observed 39 = .ok (.ireturn, 1) := by decide +kernel
theorem dX3_observed_40 : decode cX3_observed 40 = .ok (.iload_n 0, 1) := by decide +kernel
theorem dX3_observed_41 : decode cX3_observed 41 = .ok (.iconst 1, 1) := by decide +kernel
theorem dX3_observed_42 : decode cX3_observed 42 = .ok (.iadd, 1) := by decide +kernel
theorem dX3_observed_43 : decode cX3_observed 43 = .ok (.ireturn, 1) := by decide +kernel
theorem dX3_observed_44 : decode cX3_observed 44 = .ok (.iload_n 0, 1) := by decide +kernel
theorem dX3_observed_45 : decode cX3_observed 45 = .ok (.ireturn, 1) := by decide +kernel
theorem dX4_init_0 : decode cX4_init 0 = .ok (.aload_n 0, 1) := by decide +kernel
theorem dX4_init_1 : decode cX4_init 1 = .ok (.invokespecial 1, 3) := by decide +kernel
theorem dX4_init_4 : decode cX4_init 4 = .ok (.aload_n 0, 1) := by decide +kernel
theorem dX4_init_5 : decode cX4_init 5 = .ok (.bipush 10, 2) := by decide +kernel
theorem dX4_init_7 : decode cX4_init 7 = .ok (.newarray .int, 2) := by decide +kernel
theorem dX4_init_9 : decode cX4_init 9 = .ok (.putfield 9, 3) := by decide +kernel
theorem dX4_init_12 : decode cX4_init 12 = .ok (.aload_n 0, 1) := by decide +kernel
theorem dX4_init_13 : decode cX4_init 13 = .ok (.new 13, 3) := by decide +kernel
theorem dX4_init_16 : decode cX4_init 16 = .ok (.dup, 1) := by decide +kernel
theorem dX4_init_17 : decode cX4_init 17 = .ok (.invokespecial 15, 3) := by decide +kernel
theorem dX4_init_20 : decode cX4_init 20 = .ok (.putfield 16, 3) := by decide +kernel
theorem dX4_init_23 : decode cX4_init 23 = .ok (.aload_n 0, 1) := by decide +kernel
theorem dX4_init_24 : decode cX4_init 24 = .ok (.new 20, 3) := by decide +kernel
theorem dX4_init_27 : decode cX4_init 27 = .ok (.dup, 1) := by decide +kernel
theorem dX4_init_28 : decode cX4_init 28 = .ok (.invokespecial 22, 3) := by decide +kernel
theorem dX4_init_31 : decode cX4_init 31 = .ok (.putfield 23, 3) := by decide +kernel
theorem dX4_init_34 : decode cX4_init 34 = .ok (.aload_n 0, 1) := by decide +kernel
theorem dX4_init_35 : decode cX4_init 35 = .ok (.new 27, 3) := by decide +kernel
theorem dX4_init_38 : decode cX4_init 38 = .ok (.dup, 1) := by decide +kernel
theorem dX4_init_39 : decode cX4_init 39 = .ok (.invokespecial 29, 3) := by decide +kernel
theorem dX4_init_42 : decode cX4_init 42 = .ok (.putfield 30, 3) := by decide +kernel
theorem dX4_init_45 : decode cX4_init 45 = .ok (.aload_n 0, 1) := by decide +kernel
theorem dX4_init_46 : decode cX4_init 46 = .ok (.new 27, 3) := by decide +kernel
theorem dX4_init_49 : decode cX4_init 49 = .ok (.dup, 1) := by decide +kernel
theorem dX4_init_50 : decode cX4_init 50 = .ok (.invokespecial 29, 3) := by decide +kernel
theorem dX4_init_53 : decode cX4_init 53 = .ok (.putfield 34, 3) := by decide +kernel
theorem dX4_init_56 : decode cX4_init 56 = .ok (.aload_n 0, 1) := by decide +kernel
theorem dX4_init_57 : decode cX4_init 57 = .ok (.invokevirtual 37, 3) := by decide +kernel
theorem dX4_init_60 : decode cX4_init 60 = .ok (.return_, 1) := by decide +kernel
theorem dX4_civil_0 : decode cX4_civil 0 = .ok (.iload_n 1, 1) := by decide +kernel
theorem dX4_civil_1 : decode cX4_civil 1 = .ok (.invokestatic 40, 3) := by decide +kernel
theorem dX4_civil_4 : decode cX4_civil 4 = .ok (.aload_n 0, 1) := by decide +kernel
theorem dX4_civil_5 : decode cX4_civil 5 = .ok (.iload_n 1, 1) := by decide +kernel
theorem dX4_civil_6 : decode cX4_civil 6 = .ok (.iload_n 2, 1) := by decide +kernel
theorem dX4_civil_7 : decode cX4_civil 7 = .ok (.iload_n 3, 1) := by decide +kernel
theorem dX4_civil_8 : decode cX4_civil 8 = .ok (.iload 4, 2) := by decide +kernel
theorem dX4_civil_10 : decode cX4_civil 10 = .ok (.invokestatic 44, 3) := by decide +kernel
theorem dX4_civil_13 : decode cX4_civil 13 = .ok (.invokevirtual 50, 3) := by decide +kernel
theorem dX4_civil_16 : decode cX4_civil 16 = .ok (.ireturn, 1) := by decide +kernel
theorem dX4_days_0 : decode cX4_days 0 = .ok (.iload_n 1, 1) := by decide +kernel
theorem dX4_days_1 : decode cX4_days 1 = .ok (.invokestatic 40, 3) := by decide +kernel
theorem dX4_days_4 : decode cX4_days 4 = .ok (.aload_n 0, 1) := by decide +kernel
theorem dX4_days_5 : decode cX4_days 5 = .ok (.iload_n 1, 1) := by decide +kernel
theorem dX4_days_6 : decode cX4_days 6 = .ok (.iload_n 2, 1) := by decide +kernel
theorem dX4_days_7 : decode cX4_days 7 = .ok (.i2l, 1) := by decide +kernel
theorem dX4_days_8 : decode cX4_days 8 = .ok (.invokestatic 54, 3) := by decide +kernel
theorem dX4_days_11 : decode cX4_days 11 = .ok (.ifCond .eq 7, 3) := by decide +kernel
theorem dX4_days_14 : decode cX4_days 14 = .ok (.iload_n 2, 1) := by decide +kernel
theorem dX4_days_15 : decode cX4_days 15 = .ok (.goto 4, 3) := by decide +kernel
theorem dX4_days_18 : decode cX4_days 18 = .ok (.iconst (-1), 1) := by decide +kernel
theorem dX4_days_19 : decode cX4_days 19 = .ok (.invokevirtual 50, 3) := by decide +kernel
theorem dX4_days_22 : decode cX4_days 22 = .ok (.invokestatic 58, 3) := by decide +kernel
theorem dX4_days_25 : decode cX4_days 25 = .ok (.ireturn, 1) := by decide +kernel
theorem dX4_week_0 : decode cX4_week 0 = .ok (.iload_n 1, 1) := by decide +kernel
theorem dX4_week_1 : decode cX4_week 1 = .ok (.invokestatic 40, 3) := by decide +kernel
theorem dX4_week_4 : decode cX4_week 4 = .ok (.aload_n 0, 1) := by decide +kernel
theorem dX4_week_5 : decode cX4_week 5 = .ok (.iload_n 1, 1) := by decide +kernel
theorem dX4_week_6 : decode cX4_week 6 = .ok (.iload_n 2, 1) := by decide +kernel
theorem dX4_week_7 : decode cX4_week 7 = .ok (.iload_n 3, 1) := by decide +kernel
theorem dX4_week_8 : decode cX4_week 8 = .ok (.iload 4, 2) := by decide +kernel
theorem dX4_week_10 : decode cX4_week 10 = .ok (.invokestatic 62, 3) := by decide +kernel
theorem dX4_week_13 : decode cX4_week 13 = .ok (.invokevirtual 50, 3) := by decide +kernel
theorem dX4_week_16 : decode cX4_week 16 = .ok (.ireturn, 1) := by decide +kernel
theorem dX4_easter_0 : decode cX4_easter 0 = .ok (.iload_n 1, 1) := by decide +kernel
theorem dX4_easter_1 : decode cX4_easter 1 = .ok (.invokestatic 40, 3) := by decide +kernel
theorem dX4_easter_4 : decode cX4_easter 4 = .ok (.aload_n 0, 1) := by decide +kernel
theorem dX4_easter_5 : decode cX4_easter 5 = .ok (.iload_n 1, 1) := by decide +kernel
theorem dX4_easter_6 : decode cX4_easter 6 = .ok (.iload_n 2, 1) := by decide +kernel
theorem dX4_easter_7 : decode cX4_easter 7 = .ok (.invokestatic 65, 3) := by decide +kernel
theorem dX4_easter_10 : decode cX4_easter 10 = .ok (.invokevirtual 50, 3) := by decide +kernel
theorem dX4_easter_13 : decode cX4_easter 13 = .ok (.ireturn, 1) := by decide +kernel
theorem dX4_nth_0 : decode cX4_nth 0 = .ok (.iload_n 1, 1) := by decide +kernel
theorem dX4_nth_1 : decode cX4_nth 1 = .ok (.invokestatic 40, 3) := by decide +kernel
theorem dX4_nth_4 : decode cX4_nth 4 = .ok (.aload_n 0, 1) := by decide +kernel
theorem dX4_nth_5 : decode cX4_nth 5 = .ok (.iload_n 1, 1) := by decide +kernel
theorem dX4_nth_6 : decode cX4_nth 6 = .ok (.iload_n 2, 1) := by decide +kernel
theorem dX4_nth_7 : decode cX4_nth 7 = .ok (.iload_n 3, 1) := by decide +kernel
theorem dX4_nth_8 : decode cX4_nth 8 = .ok (.iload 4, 2) := by decide +kernel
theorem dX4_nth_10 : decode cX4_nth 10 = .ok (.iload 5, 2) := by decide +kernel
theorem dX4_nth_12 : decode cX4_nth 12 = .ok (.invokestatic 68, 3) := by decide +kernel
theorem dX4_nth_15 : decode cX4_nth 15 = .ok (.invokevirtual 50, 3) := by decide +kernel
theorem dX4_nth_18 : decode cX4_nth 18 = .ok (.ireturn, 1) := by decide +kernel
theorem dX4_move_0 : decode cX4_move 0 = .ok (.iload_n 1, 1) := by decide +kernel
theorem dX4_move_1 : decode cX4_move 1 = .ok (.invokestatic 40, 3) := by decide +kernel
theorem dX4_move_4 : decode cX4_move 4 = .ok (.iload_n 3, 1) := by decide +kernel
theorem dX4_move_5 : decode cX4_move 5 = .ok (.invokestatic 72, 3) := by decide +kernel
theorem dX4_move_8 : decode cX4_move 8 = .ok (.aload_n 0, 1) := by decide +kernel
theorem dX4_move_9 : decode cX4_move 9 = .ok (.iload_n 1, 1) := by decide +kernel
theorem dX4_move_10 : decode cX4_move 10 = .ok (.invokevirtual 75, 3) := by decide +kernel
theorem dX4_move_13 : decode cX4_move 13 = .ok (.iload_n 2, 1) := by decide +kernel
theorem dX4_move_14 : decode cX4_move 14 = .ok (.iload_n 3, 1) := by decide +kernel
theorem dX4_move_15 : decode cX4_move 15 = .ok (.invokestatic 78, 3) := by decide +kernel
theorem dX4_move_18 : decode cX4_move 18 = .ok (.istore 4, 2) := by decide +kernel
theorem dX4_move_20 : decode cX4_move 20 = .ok (.iload 4, 2) := by decide +kernel
theorem dX4_move_22 : decode cX4_move 22 = .ok (.iconst (-1), 1) := by decide +kernel
theorem dX4_move_23 : decode cX4_move 23 = .ok (.if_icmp .ne 13, 3) := by decide +kernel
theorem dX4_move_26 : decode cX4_move 26 = .ok (.new 81, 3) := by decide +kernel
theorem dX4_move_29 : decode cX4_move 29 = .ok (.dup, 1) := by decide +kernel
theorem dX4_move_30 : decode cX4_move 30 = .ok (.ldc 83, 2) := by decide +kernel
theorem dX4_move_32 : decode cX4_move 32 = .ok (.invokespecial 85, 3) := by decide +kernel
theorem dX4_move_35 : decode cX4_move 35 = .ok (.athrow, 1) := by decide +kernel
theorem dX4_move_36 : decode cX4_move 36 = .ok (.aload_n 0, 1) := by decide +kernel
theorem dX4_move_37 : decode cX4_move 37 = .ok (.iload_n 1, 1) := by decide +kernel
theorem dX4_move_38 : decode cX4_move 38 = .ok (.iload 4, 2) := by decide +kernel
theorem dX4_move_40 : decode cX4_move 40 = .ok (.invokevirtual 50, 3) := by decide +kernel
theorem dX4_move_43 : decode cX4_move 43 = .ok (.ireturn, 1) := by decide +kernel
theorem dX4_told_0 : decode cX4_told 0 = .ok (.iload_n 1, 1) := by decide +kernel
theorem dX4_told_1 : decode cX4_told 1 = .ok (.invokestatic 40, 3) := by decide +kernel
theorem dX4_told_4 : decode cX4_told 4 = .ok (.iload_n 2, 1) := by decide +kernel
theorem dX4_told_5 : decode cX4_told 5 = .ok (.ifCond .lt 9, 3) := by decide +kernel
theorem dX4_told_8 : decode cX4_told 8 = .ok (.iload_n 2, 1) := by decide +kernel
theorem dX4_told_9 : decode cX4_told 9 = .ok (.bipush 10, 2) := by decide +kernel
theorem dX4_told_11 : decode cX4_told 11 = .ok (.if_icmp .le 13, 3) := by decide +kernel
theorem dX4_told_14 : decode cX4_told 14 = .ok (.new 88, 3) := by decide +kernel
theorem dX4_told_17 : decode cX4_told 17 = .ok (.dup, 1) := by decide +kernel
theorem dX4_told_18 : decode cX4_told 18 = .ok (.ldc 90, 2) := by decide +kernel
theorem dX4_told_20 : decode cX4_told 20 = .ok (.invokespecial 92, 3) := by decide +kernel
theorem dX4_told_23 : decode cX4_told 23 = .ok (.athrow, 1) := by decide +kernel
theorem dX4_told_24 : decode cX4_told 24 = .ok (.aload_n 0, 1) := by decide +kernel
theorem dX4_told_25 : decode cX4_told 25 = .ok (.iload_n 1, 1) := by decide +kernel
theorem dX4_told_26 : decode cX4_told 26 = .ok (.invokevirtual 75, 3) := by decide +kernel
