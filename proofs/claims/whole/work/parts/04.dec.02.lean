theorem dX5_nthOf_119 : decode cX5_nthOf 119 = .ok (.ireturn, 1) := by decide +kernel
theorem dX5_byMonths_0 : decode cX5_byMonths 0 = .ok (.ldc2_w 73, 3) := by decide +kernel
theorem dX5_byMonths_3 : decode cX5_byMonths 3 = .ok (.iload_n 0, 1) := by decide +kernel
theorem dX5_byMonths_4 : decode cX5_byMonths 4 = .ok (.invokestatic 54, 3) := by decide +kernel
theorem dX5_byMonths_7 : decode cX5_byMonths 7 = .ok (.i2l, 1) := by decide +kernel
theorem dX5_byMonths_8 : decode cX5_byMonths 8 = .ok (.lmul, 1) := by decide +kernel
theorem dX5_byMonths_9 : decode cX5_byMonths 9 = .ok (.iload_n 0, 1) := by decide +kernel
theorem dX5_byMonths_10 : decode cX5_byMonths 10 = .ok (.invokestatic 61, 3) := by decide +kernel
theorem dX5_byMonths_13 : decode cX5_byMonths 13 = .ok (.i2l, 1) := by decide +kernel
theorem dX5_byMonths_14 : decode cX5_byMonths 14 = .ok (.ladd, 1) := by decide +kernel
theorem dX5_byMonths_15 : decode cX5_byMonths 15 = .ok (.lconst 1, 1) := by decide +kernel
theorem dX5_byMonths_16 : decode cX5_byMonths 16 = .ok (.lsub, 1) := by decide +kernel
theorem dX5_byMonths_17 : decode cX5_byMonths 17 = .ok (.lload_n 1, 1) := by decide +kernel
theorem dX5_byMonths_18 : decode cX5_byMonths 18 = .ok (.ladd, 1) := by decide +kernel
theorem dX5_byMonths_19 : decode cX5_byMonths 19 = .ok (.lstore_n 3, 1) := by decide +kernel
theorem dX5_byMonths_20 : decode cX5_byMonths 20 = .ok (.lload_n 3, 1) := by decide +kernel
theorem dX5_byMonths_21 : decode cX5_byMonths 21 = .ok (.ldc2_w 73, 3) := by decide +kernel
theorem dX5_byMonths_24 : decode cX5_byMonths 24 = .ok (.lcmp, 1) := by decide +kernel
theorem dX5_byMonths_25 : decode cX5_byMonths 25 = .ok (.ifCond .lt 11, 3) := by decide +kernel
theorem dX5_byMonths_28 : decode cX5_byMonths 28 = .ok (.lload_n 3, 1) := by decide +kernel
theorem dX5_byMonths_29 : decode cX5_byMonths 29 = .ok (.ldc2_w 75, 3) := by decide +kernel
theorem dX5_byMonths_32 : decode cX5_byMonths 32 = .ok (.lcmp, 1) := by decide +kernel
theorem dX5_byMonths_33 : decode cX5_byMonths 33 = .ok (.ifCond .le 5, 3) := by decide +kernel
theorem dX5_byMonths_36 : decode cX5_byMonths 36 = .ok (.iconst (-1), 1) := by decide +kernel
theorem dX5_byMonths_37 : decode cX5_byMonths 37 = .ok (.ireturn, 1) := by decide +kernel
theorem dX5_byMonths_38 : decode cX5_byMonths 38 = .ok (.lload_n 3, 1) := by decide +kernel
theorem dX5_byMonths_39 : decode cX5_byMonths 39 = .ok (.ldc2_w 73, 3) := by decide +kernel
theorem dX5_byMonths_42 : decode cX5_byMonths 42 = .ok (.ldiv, 1) := by decide +kernel
theorem dX5_byMonths_43 : decode cX5_byMonths 43 = .ok (.l2i, 1) := by decide +kernel
theorem dX5_byMonths_44 : decode cX5_byMonths 44 = .ok (.istore 5, 2) := by decide +kernel
theorem dX5_byMonths_46 : decode cX5_byMonths 46 = .ok (.lload_n 3, 1) := by decide +kernel
theorem dX5_byMonths_47 : decode cX5_byMonths 47 = .ok (.ldc2_w 73, 3) := by decide +kernel
theorem dX5_byMonths_50 : decode cX5_byMonths 50 = .ok (.lrem, 1) := by decide +kernel
theorem dX5_byMonths_51 : decode cX5_byMonths 51 = .ok (.l2i, 1) := by decide +kernel
theorem dX5_byMonths_52 : decode cX5_byMonths 52 = .ok (.iconst 1, 1) := by decide +kernel
theorem dX5_byMonths_53 : decode cX5_byMonths 53 = .ok (.iadd, 1) := by decide +kernel
theorem dX5_byMonths_54 : decode cX5_byMonths 54 = .ok (.istore 6, 2) := by decide +kernel
theorem dX5_byMonths_56 : decode cX5_byMonths 56 = .ok (.iload_n 0, 1) := by decide +kernel
theorem dX5_byMonths_57 : decode cX5_byMonths 57 = .ok (.invokestatic 77, 3) := by decide +kernel
theorem dX5_byMonths_60 : decode cX5_byMonths 60 = .ok (.istore 7, 2) := by decide +kernel
theorem dX5_byMonths_62 : decode cX5_byMonths 62 = .ok (.iload 5, 2) := by decide +kernel
theorem dX5_byMonths_64 : decode cX5_byMonths 64 = .ok (.iload 6, 2) := by decide +kernel
theorem dX5_byMonths_66 : decode cX5_byMonths 66 = .ok (.iload 7, 2) := by decide +kernel
theorem dX5_byMonths_68 : decode cX5_byMonths 68 = .ok (.iload 5, 2) := by decide +kernel
theorem dX5_byMonths_70 : decode cX5_byMonths 70 = .ok (.iload 6, 2) := by decide +kernel
theorem dX5_byMonths_72 : decode cX5_byMonths 72 = .ok (.invokestatic 50, 3) := by decide +kernel
theorem dX5_byMonths_75 : decode cX5_byMonths 75 = .ok (.if_icmp .ge 8, 3) := by decide +kernel
theorem dX5_byMonths_78 : decode cX5_byMonths 78 = .ok (.iload 7, 2) := by decide +kernel
theorem dX5_byMonths_80 : decode cX5_byMonths 80 = .ok (.goto 10, 3) := by decide +kernel
theorem dX5_byMonths_83 : decode cX5_byMonths 83 = .ok (.iload 5, 2) := by decide +kernel
theorem dX5_byMonths_85 : decode cX5_byMonths 85 = .ok (.iload 6, 2) := by decide +kernel
theorem dX5_byMonths_87 : decode cX5_byMonths 87 = .ok (.invokestatic 50, 3) := by decide +kernel
theorem dX5_byMonths_90 : decode cX5_byMonths 90 = .ok (.invokestatic 57, 3) := by decide +kernel
theorem dX5_byMonths_93 : decode cX5_byMonths 93 = .ok (.ireturn, 1) := by decide +kernel
theorem dX5_lay_0 : decode cX5_lay 0 = .ok (.aload_n 0, 1) := by decide +kernel
theorem dX5_lay_1 : decode cX5_lay 1 = .ok (.getfield 7, 3) := by decide +kernel
theorem dX5_lay_4 : decode cX5_lay 4 = .ok (.iload_n 1, 1) := by decide +kernel
theorem dX5_lay_5 : decode cX5_lay 5 = .ok (.iload_n 2, 1) := by decide +kernel
theorem dX5_lay_6 : decode cX5_lay 6 = .ok (.iastore, 1) := by decide +kernel
theorem dX5_lay_7 : decode cX5_lay 7 = .ok (.iload_n 2, 1) := by decide +kernel
theorem dX5_lay_8 : decode cX5_lay 8 = .ok (.ireturn, 1) := by decide +kernel
theorem dX5_civil_0 : decode cX5_civil 0 = .ok (.aload_n 0, 1) := by decide +kernel
theorem dX5_civil_1 : decode cX5_civil 1 = .ok (.iload_n 1, 1) := by decide +kernel
theorem dX5_civil_2 : decode cX5_civil 2 = .ok (.invokestatic 80, 3) := by decide +kernel
theorem dX5_civil_5 : decode cX5_civil 5 = .ok (.ifCond .ne 7, 3) := by decide +kernel
theorem dX5_civil_8 : decode cX5_civil 8 = .ok (.iconst 1, 1) := by decide +kernel
theorem dX5_civil_9 : decode cX5_civil 9 = .ok (.goto 18, 3) := by decide +kernel
theorem dX5_civil_12 : decode cX5_civil 12 = .ok (.iload_n 2, 1) := by decide +kernel
theorem dX5_civil_13 : decode cX5_civil 13 = .ok (.iload_n 3, 1) := by decide +kernel
theorem dX5_civil_14 : decode cX5_civil 14 = .ok (.iload 4, 2) := by decide +kernel
theorem dX5_civil_16 : decode cX5_civil 16 = .ok (.invokestatic 83, 3) := by decide +kernel
theorem dX5_civil_19 : decode cX5_civil 19 = .ok (.ifCond .ne 7, 3) := by decide +kernel
theorem dX5_civil_22 : decode cX5_civil 22 = .ok (.iconst 2, 1) := by decide +kernel
theorem dX5_civil_23 : decode cX5_civil 23 = .ok (.goto 4, 3) := by decide +kernel
theorem dX5_civil_26 : decode cX5_civil 26 = .ok (.iconst 0, 1) := by decide +kernel
theorem dX5_civil_27 : decode cX5_civil 27 = .ok (.putfield 35, 3) := by decide +kernel
theorem dX5_civil_30 : decode cX5_civil 30 = .ok (.aload_n 0, 1) := by decide +kernel
theorem dX5_civil_31 : decode cX5_civil 31 = .ok (.getfield 35, 3) := by decide +kernel
theorem dX5_civil_34 : decode cX5_civil 34 = .ok (.ifCond .le 7, 3) := by decide +kernel
theorem dX5_civil_37 : decode cX5_civil 37 = .ok (.iconst 0, 1) := by decide +kernel
theorem dX5_civil_38 : decode cX5_civil 38 = .ok (.goto 15, 3) := by decide +kernel
theorem dX5_civil_41 : decode cX5_civil 41 = .ok (.aload_n 0, 1) := by decide +kernel
theorem dX5_civil_42 : decode cX5_civil 42 = .ok (.iload_n 1, 1) := by decide +kernel
theorem dX5_civil_43 : decode cX5_civil 43 = .ok (.iload_n 2, 1) := by decide +kernel
theorem dX5_civil_44 : decode cX5_civil 44 = .ok (.iload_n 3, 1) := by decide +kernel
theorem dX5_civil_45 : decode cX5_civil 45 = .ok (.iload 4, 2) := by decide +kernel
theorem dX5_civil_47 : decode cX5_civil 47 = .ok (.invokestatic 57, 3) := by decide +kernel
theorem dX5_civil_50 : decode cX5_civil 50 = .ok (.invokevirtual 86, 3) := by decide +kernel
theorem dX5_civil_53 : decode cX5_civil 53 = .ok (.ireturn, 1) := by decide +kernel
theorem dX5_days_0 : decode cX5_days 0 = .ok (.aload_n 0, 1) := by decide +kernel
theorem dX5_days_1 : decode cX5_days 1 = .ok (.iload_n 1, 1) := by decide +kernel
theorem dX5_days_2 : decode cX5_days 2 = .ok (.invokestatic 80, 3) := by decide +kernel
theorem dX5_days_5 : decode cX5_days 5 = .ok (.ifCond .ne 7, 3) := by decide +kernel
theorem dX5_days_8 : decode cX5_days 8 = .ok (.iconst 1, 1) := by decide +kernel
theorem dX5_days_9 : decode cX5_days 9 = .ok (.goto 18, 3) := by decide +kernel
theorem dX5_days_12 : decode cX5_days 12 = .ok (.iload_n 2, 1) := by decide +kernel
theorem dX5_days_13 : decode cX5_days 13 = .ok (.iconst 0, 1) := by decide +kernel
theorem dX5_days_14 : decode cX5_days 14 = .ok (.ldc 89, 2) := by decide +kernel
theorem dX5_days_16 : decode cX5_days 16 = .ok (.invokestatic 38, 3) := by decide +kernel
theorem dX5_days_19 : decode cX5_days 19 = .ok (.ifCond .ne 7, 3) := by decide +kernel
theorem dX5_days_22 : decode cX5_days 22 = .ok (.iconst 2, 1) := by decide +kernel
theorem dX5_days_23 : decode cX5_days 23 = .ok (.goto 4, 3) := by decide +kernel
theorem dX5_days_26 : decode cX5_days 26 = .ok (.iconst 0, 1) := by decide +kernel
theorem dX5_days_27 : decode cX5_days 27 = .ok (.putfield 35, 3) := by decide +kernel
theorem dX5_days_30 : decode cX5_days 30 = .ok (.aload_n 0, 1) := by decide +kernel
theorem dX5_days_31 : decode cX5_days 31 = .ok (.getfield 35, 3) := by decide +kernel
theorem dX5_days_34 : decode cX5_days 34 = .ok (.ifCond .le 7, 3) := by decide +kernel
theorem dX5_days_37 : decode cX5_days 37 = .ok (.iconst 0, 1) := by decide +kernel
theorem dX5_days_38 : decode cX5_days 38 = .ok (.goto 12, 3) := by decide +kernel
theorem dX5_days_41 : decode cX5_days 41 = .ok (.aload_n 0, 1) := by decide +kernel
theorem dX5_days_42 : decode cX5_days 42 = .ok (.iload_n 1, 1) := by decide +kernel
theorem dX5_days_43 : decode cX5_days 43 = .ok (.iload_n 2, 1) := by decide +kernel
theorem dX5_days_44 : decode cX5_days 44 = .ok (.invokevirtual 86, 3) := by decide +kernel
theorem dX5_days_47 : decode cX5_days 47 = .ok (.invokestatic 64, 3) := by decide +kernel
theorem dX5_days_50 : decode cX5_days 50 = .ok (.ireturn, 1) := by decide +kernel
theorem dX5_byWeek_0 : decode cX5_byWeek 0 = .ok (.iload_n 0, 1) := by decide +kernel
theorem dX5_byWeek_1 : decode cX5_byWeek 1 = .ok (.iconst 1, 1) := by decide +kernel
theorem dX5_byWeek_2 : decode cX5_byWeek 2 = .ok (.sipush 9999, 3) := by decide +kernel
theorem dX5_byWeek_5 : decode cX5_byWeek 5 = .ok (.invokestatic 38, 3) := by decide +kernel
theorem dX5_byWeek_8 : decode cX5_byWeek 8 = .ok (.ifCond .eq 25, 3) := by decide +kernel
theorem dX5_byWeek_11 : decode cX5_byWeek 11 = .ok (.iload_n 2, 1) := by decide +kernel
theorem dX5_byWeek_12 : decode cX5_byWeek 12 = .ok (.iconst 1, 1) := by decide +kernel
theorem dX5_byWeek_13 : decode cX5_byWeek 13 = .ok (.bipush 7, 2) := by decide +kernel
theorem dX5_byWeek_15 : decode cX5_byWeek 15 = .ok (.invokestatic 38, 3) := by decide +kernel
theorem dX5_byWeek_18 : decode cX5_byWeek 18 = .ok (.ifCond .eq 15, 3) := by decide +kernel
theorem dX5_byWeek_21 : decode cX5_byWeek 21 = .ok (.iload_n 1, 1) := by decide +kernel
theorem dX5_byWeek_22 : decode cX5_byWeek 22 = .ok (.iconst 1, 1) := by decide +kernel
theorem dX5_byWeek_23 : decode cX5_byWeek 23 = .ok (.iload_n 0, 1) := by decide +kernel
theorem dX5_byWeek_24 : decode cX5_byWeek 24 = .ok (.invokestatic 90, 3) := by decide +kernel
theorem dX5_byWeek_27 : decode cX5_byWeek 27 = .ok (.invokestatic 38, 3) := by decide +kernel
theorem dX5_byWeek_30 : decode cX5_byWeek 30 = .ok (.ifCond .ne 5, 3) := by decide +kernel
theorem dX5_byWeek_33 : decode cX5_byWeek 33 = .ok (.iconst (-1), 1) := by decide +kernel
theorem dX5_byWeek_34 : decode cX5_byWeek 34 = .ok (.ireturn, 1) := by decide +kernel
theorem dX5_byWeek_35 : decode cX5_byWeek 35 = .ok (.iload_n 0, 1) := by decide +kernel
theorem dX5_byWeek_36 : decode cX5_byWeek 36 = .ok (.invokestatic 67, 3) := by decide +kernel
theorem dX5_byWeek_39 : decode cX5_byWeek 39 = .ok (.bipush 7, 2) := by decide +kernel
theorem dX5_byWeek_41 : decode cX5_byWeek 41 = .ok (.iload_n 1, 1) := by decide +kernel
theorem dX5_byWeek_42 : decode cX5_byWeek 42 = .ok (.iconst 1, 1) := by decide +kernel
theorem dX5_byWeek_43 : decode cX5_byWeek 43 = .ok (.isub, 1) := by decide +kernel
theorem dX5_byWeek_44 : decode cX5_byWeek 44 = .ok (.imul, 1) := by decide +kernel
theorem dX5_byWeek_45 : decode cX5_byWeek 45 = .ok (.iadd, 1) := by decide +kernel
theorem dX5_byWeek_46 : decode cX5_byWeek 46 = .ok (.iload_n 2, 1) := by decide +kernel
theorem dX5_byWeek_47 : decode cX5_byWeek 47 = .ok (.iadd, 1) := by decide +kernel
theorem dX5_byWeek_48 : decode cX5_byWeek 48 = .ok (.iconst 1, 1) := by decide +kernel
theorem dX5_byWeek_49 : decode cX5_byWeek 49 = .ok (.isub, 1) := by decide +kernel
theorem dX5_byWeek_50 : decode cX5_byWeek 50 = .ok (.istore_n 3, 1) := by decide +kernel
theorem dX5_byWeek_51 : decode cX5_byWeek 51 = .ok (.iload_n 3, 1) := by decide +kernel
theorem dX5_byWeek_52 : decode cX5_byWeek 52 = .ok (.iconst 0, 1) := by decide +kernel
theorem dX5_byWeek_53 : decode cX5_byWeek 53 = .ok (.ldc 89, 2) := by decide +kernel
theorem dX5_byWeek_55 : decode cX5_byWeek 55 = .ok (.invokestatic 38, 3) := by decide +kernel
theorem dX5_byWeek_58 : decode cX5_byWeek 58 = .ok (.ifCond .eq 7, 3) := by decide +kernel
theorem dX5_byWeek_61 : decode cX5_byWeek 61 = .ok (.iload_n 3, 1) := by decide +kernel
theorem dX5_byWeek_62 : decode cX5_byWeek 62 = .ok (.goto 4, 3) := by decide +kernel
theorem dX5_byWeek_65 : decode cX5_byWeek 65 = .ok (.iconst (-1), 1) := by decide +kernel
theorem dX5_byWeek_66 : decode cX5_byWeek 66 = .ok (.ireturn, 1) := by decide +kernel
theorem dX5_week_0 : decode cX5_week 0 = .ok (.aload_n 0, 1) := by decide +kernel
theorem dX5_week_1 : decode cX5_week 1 = .ok (.iload_n 1, 1) := by decide +kernel
theorem dX5_week_2 : decode cX5_week 2 = .ok (.invokestatic 80, 3) := by decide +kernel
theorem dX5_week_5 : decode cX5_week 5 = .ok (.ifCond .ne 7, 3) := by decide +kernel
theorem dX5_week_8 : decode cX5_week 8 = .ok (.iconst 1, 1) := by decide +kernel
theorem dX5_week_9 : decode cX5_week 9 = .ok (.goto 18, 3) := by decide +kernel
theorem dX5_week_12 : decode cX5_week 12 = .ok (.iload_n 2, 1) := by decide +kernel
theorem dX5_week_13 : decode cX5_week 13 = .ok (.iload_n 3, 1) := by decide +kernel
theorem dX5_week_14 : decode cX5_week 14 = .ok (.iload 4, 2) := by decide +kernel
theorem dX5_week_16 : decode cX5_week 16 = .ok (.invokestatic 93, 3) := by decide +kernel
theorem dX5_week_19 : decode cX5_week 19 = .ok (.ifCond .ge 7, 3) := by decide +kernel
theorem dX5_week_22 : decode cX5_week 22 = .ok (.iconst 2, 1) := by decide +kernel
theorem dX5_week_23 : decode cX5_week 23 = .ok (.goto 4, 3) := by decide +kernel
theorem dX5_week_26 : decode cX5_week 26 = .ok (.iconst 0, 1) := by decide +kernel
theorem dX5_week_27 : decode cX5_week 27 = .ok (.putfield 35, 3) := by decide +kernel
theorem dX5_week_30 : decode cX5_week 30 = .ok (.aload_n 0, 1) := by decide +kernel
theorem dX5_week_31 : decode cX5_week 31 = .ok (.getfield 35, 3) := by decide +kernel
theorem dX5_week_34 : decode cX5_week 34 = .ok (.ifCond .le 7, 3) := by decide +kernel
theorem dX5_week_37 : decode cX5_week 37 = .ok (.iconst 0, 1) := by decide +kernel
theorem dX5_week_38 : decode cX5_week 38 = .ok (.goto 15, 3) := by decide +kernel
theorem dX5_week_41 : decode cX5_week 41 = .ok (.aload_n 0, 1) := by decide +kernel
theorem dX5_week_42 : decode cX5_week 42 = .ok (.iload_n 1, 1) := by decide +kernel
theorem dX5_week_43 : decode cX5_week 43 = .ok (.iload_n 2, 1) := by decide +kernel
theorem dX5_week_44 : decode cX5_week 44 = .ok (.iload_n 3, 1) := by decide +kernel
theorem dX5_week_45 : decode cX5_week 45 = .ok (.iload 4, 2) := by decide +kernel
theorem dX5_week_47 : decode cX5_week 47 = .ok (.invokestatic 93, 3) := by decide +kernel
theorem dX5_week_50 : decode cX5_week 50 = .ok (.invokevirtual 86, 3) := by decide +kernel
theorem dX5_week_53 : decode cX5_week 53 = .ok (.ireturn, 1) := by decide +kernel
theorem dX5_easter_0 : decode cX5_easter 0 = .ok (.aload_n 0, 1) := by decide +kernel
theorem dX5_easter_1 : decode cX5_easter 1 = .ok (.iload_n 1, 1) := by decide +kernel
theorem dX5_easter_2 : decode cX5_easter 2 = .ok (.invokestatic 80, 3) := by decide +kernel
theorem dX5_easter_5 : decode cX5_easter 5 = .ok (.ifCond .ne 7, 3) := by decide +kernel
theorem dX5_easter_8 : decode cX5_easter 8 = .ok (.iconst 1, 1) := by decide +kernel
theorem dX5_easter_9 : decode cX5_easter 9 = .ok (.goto 21, 3) := by decide +kernel
theorem dX5_easter_12 : decode cX5_easter 12 = .ok (.iload_n 2, 1) := by decide +kernel
theorem dX5_easter_13 : decode cX5_easter 13 = .ok (.sipush 1583, 3) := by decide +kernel
theorem dX5_easter_16 : decode cX5_easter 16 = .ok (.sipush 9999, 3) := by decide +kernel
theorem dX5_easter_19 : decode cX5_easter 19 = .ok (.invokestatic 38, 3) := by decide +kernel
theorem dX5_easter_22 : decode cX5_easter 22 = .ok (.ifCond .ne 7, 3) := by decide +kernel
theorem dX5_easter_25 : decode cX5_easter 25 = .ok (.iconst 2, 1) := by decide +kernel
theorem dX5_easter_26 : decode cX5_easter 26 = .ok (.goto 4, 3) := by decide +kernel
theorem dX5_easter_29 : decode cX5_easter 29 = .ok (.iconst 0, 1) := by decide +kernel
theorem dX5_easter_30 : decode cX5_easter 30 = .ok (.putfield 35, 3) := by decide +kernel
theorem dX5_easter_33 : decode cX5_easter 33 = .ok (.aload_n 0, 1) := by decide +kernel
theorem dX5_easter_34 : decode cX5_easter 34 = .ok (.getfield 35, 3) := by decide +kernel
theorem dX5_easter_37 : decode cX5_easter 37 = .ok (.ifCond .le 7, 3) := by decide +kernel
theorem dX5_easter_40 : decode cX5_easter 40 = .ok (.iconst 0, 1) := by decide +kernel
theorem dX5_easter_41 : decode cX5_easter 41 = .ok (.goto 12, 3) := by decide +kernel
theorem dX5_easter_44 : decode cX5_easter 44 = .ok (.aload_n 0, 1) := by decide +kernel
theorem dX5_easter_45 : decode cX5_easter 45 = .ok (.iload_n 1, 1) := by decide +kernel
theorem dX5_easter_46 : decode cX5_easter 46 = .ok (.iload_n 2, 1) := by decide +kernel
theorem dX5_easter_47 : decode cX5_easter 47 = .ok (.invokestatic 96, 3) := by decide +kernel
theorem dX5_easter_50 : decode cX5_easter 50 = .ok (.invokevirtual 86, 3) := by decide +kernel
theorem dX5_easter_53 : decode cX5_easter 53 = .ok (.ireturn, 1) := by decide +kernel
theorem dX5_nth_0 : decode cX5_nth 0 = .ok (.iload_n 2, 1) := by decide +kernel
theorem dX5_nth_1 : decode cX5_nth 1 = .ok (.iconst 1, 1) := by decide +kernel
theorem dX5_nth_2 : decode cX5_nth 2 = .ok (.sipush 9999, 3) := by decide +kernel
theorem dX5_nth_5 : decode cX5_nth 5 = .ok (.invokestatic 38, 3) := by decide +kernel
theorem dX5_nth_8 : decode cX5_nth 8 = .ok (.ifCond .eq 44, 3) := by decide +kernel
theorem dX5_nth_11 : decode cX5_nth 11 = .ok (.iload_n 3, 1) := by decide +kernel
theorem dX5_nth_12 : decode cX5_nth 12 = .ok (.iconst 1, 1) := by decide +kernel
theorem dX5_nth_13 : decode cX5_nth 13 = .ok (.bipush 12, 2) := by decide +kernel
theorem dX5_nth_15 : decode cX5_nth 15 = .ok (.invokestatic 38, 3) := by decide +kernel
theorem dX5_nth_18 : decode cX5_nth 18 = .ok (.ifCond .eq 34, 3) := by decide +kernel
theorem dX5_nth_21 : decode cX5_nth 21 = .ok (.iload 4, 2) := by decide +kernel
theorem dX5_nth_23 : decode cX5_nth 23 = .ok (.iconst 1, 1) := by decide +kernel
theorem dX5_nth_24 : decode cX5_nth 24 = .ok (.bipush 7, 2) := by decide +kernel
theorem dX5_nth_26 : decode cX5_nth 26 = .ok (.invokestatic 38, 3) := by decide +kernel
theorem dX5_nth_29 : decode cX5_nth 29 = .ok (.ifCond .eq 23, 3) := by decide +kernel
theorem dX5_nth_32 : decode cX5_nth 32 = .ok (.iload 5, 2) := by decide +kernel
theorem dX5_nth_34 : decode cX5_nth 34 = .ok (.bipush (-5), 2) := by decide +kernel
theorem dX5_nth_36 : decode cX5_nth 36 = .ok (.iconst 5, 1) := by decide +kernel
theorem dX5_nth_37 : decode cX5_nth 37 = .ok (.invokestatic 38, 3) := by decide +kernel
theorem dX5_nth_40 : decode cX5_nth 40 = .ok (.ifCond .eq 12, 3) := by decide +kernel
theorem dX5_nth_43 : decode cX5_nth 43 = .ok (.iload 5, 2) := by decide +kernel
theorem dX5_nth_45 : decode cX5_nth 45 = .ok (.ifCond .eq 7, 3) := by decide +kernel
theorem dX5_nth_48 : decode cX5_nth 48 = .ok (.iconst 1, 1) := by decide +kernel
theorem dX5_nth_49 : decode cX5_nth 49 = .ok (.goto 4, 3) := by decide +kernel
theorem dX5_nth_52 : decode cX5_nth 52 = .ok (.iconst 0, 1) := by decide +kernel
theorem dX5_nth_53 : decode cX5_nth 53 = .ok (.istore 6, 2) := by decide +kernel
theorem dX5_nth_55 : decode cX5_nth 55 = .ok (.aload_n 0, 1) := by decide +kernel
theorem dX5_nth_56 : decode cX5_nth 56 = .ok (.iload_n 1, 1) := by decide +kernel
theorem dX5_nth_57 : decode cX5_nth 57 = .ok (.invokestatic 80, 3) := by decide +kernel
theorem dX5_nth_60 : decode cX5_nth 60 = .ok (.ifCond .ne 7, 3) := by decide +kernel
theorem dX5_nth_63 : decode cX5_nth 63 = .ok (.iconst 1, 1) := by decide +kernel
theorem dX5_nth_64 : decode cX5_nth 64 = .ok (.goto 25, 3) := by decide +kernel
theorem dX5_nth_67 : decode cX5_nth 67 = .ok (.iload 6, 2) := by decide +kernel
theorem dX5_nth_69 : decode cX5_nth 69 = .ok (.ifCond .eq 15, 3) := by decide +kernel
theorem dX5_nth_72 : decode cX5_nth 72 = .ok (.iload_n 2, 1) := by decide +kernel
theorem dX5_nth_73 : decode cX5_nth 73 = .ok (.iload_n 3, 1) := by decide +kernel
theorem dX5_nth_74 : decode cX5_nth 74 = .ok (.iload 4, 2) := by decide +kernel
theorem dX5_nth_76 : decode cX5_nth 76 = .ok (.iload 5, 2) := by decide +kernel
theorem dX5_nth_78 : decode cX5_nth 78 = .ok (.invokestatic 99, 3) := by decide +kernel
theorem dX5_nth_81 : decode cX5_nth 81 = .ok (.ifCond .ge 7, 3) := by decide +kernel
theorem dX5_nth_84 : decode cX5_nth 84 = .ok (.iconst 2, 1) := by decide +kernel
theorem dX5_nth_85 : decode cX5_nth 85 = .ok (.goto 4, 3) := by decide +kernel
theorem dX5_nth_88 : decode cX5_nth 88 = .ok (.iconst 0, 1) := by decide +kernel
theorem dX5_nth_89 : decode cX5_nth 89 = .ok (.putfield 35, 3) := by decide +kernel
theorem dX5_nth_92 : decode cX5_nth 92 = .ok (.aload_n 0, 1) := by decide +kernel
theorem dX5_nth_93 : decode cX5_nth 93 = .ok (.getfield 35, 3) := by decide +kernel
theorem dX5_nth_96 : decode cX5_nth 96 = .ok (.ifCond .le 7, 3) := by decide +kernel
theorem dX5_nth_99 : decode cX5_nth 99 = .ok (.iconst 0, 1) := by decide +kernel
theorem dX5_nth_100 : decode cX5_nth 100 = .ok (.goto 17, 3) := by decide +kernel
theorem dX5_nth_103 : decode cX5_nth 103 = .ok (.aload_n 0, 1) := by decide +kernel
theorem dX5_nth_104 : decode cX5_nth 104 = .ok (.iload_n 1, 1) := by decide +kernel
theorem dX5_nth_105 : decode cX5_nth 105 = .ok (.iload_n 2, 1) := by decide +kernel
theorem dX5_nth_106 : decode cX5_nth 106 = .ok (.iload_n 3, 1) := by decide +kernel
theorem dX5_nth_107 : decode cX5_nth 107 = .ok (.iload 4, 2) := by decide +kernel
theorem dX5_nth_109 : decode cX5_nth 109 = .ok (.iload 5, 2) := by decide +kernel
theorem dX5_nth_111 : decode cX5_nth 111 = .ok (.invokestatic 99, 3) := by decide +kernel
theorem dX5_nth_114 : decode cX5_nth 114 = .ok (.invokevirtual 86, 3) := by decide +kernel
theorem dX5_nth_117 : decode cX5_nth 117 = .ok (.ireturn, 1) := by decide +kernel
theorem dX5_move_0 : decode cX5_move 0 = .ok (.aload_n 0, 1) := by decide +kernel
theorem dX5_move_1 : decode cX5_move 1 = .ok (.iload_n 1, 1) := by decide +kernel
theorem dX5_move_2 : decode cX5_move 2 = .ok (.invokestatic 80, 3) := by decide +kernel
theorem dX5_move_5 : decode cX5_move 5 = .ok (.ifCond .ne 7, 3) := by decide +kernel
theorem dX5_move_8 : decode cX5_move 8 = .ok (.iconst 1, 1) := by decide +kernel
theorem dX5_move_9 : decode cX5_move 9 = .ok (.goto 30, 3) := by decide +kernel
theorem dX5_move_12 : decode cX5_move 12 = .ok (.iload_n 3, 1) := by decide +kernel
theorem dX5_move_13 : decode cX5_move 13 = .ok (.iconst 0, 1) := by decide +kernel
theorem dX5_move_14 : decode cX5_move 14 = .ok (.iconst 2, 1) := by decide +kernel
theorem dX5_move_15 : decode cX5_move 15 = .ok (.invokestatic 38, 3) := by decide +kernel
theorem dX5_move_18 : decode cX5_move 18 = .ok (.ifCond .ne 7, 3) := by decide +kernel
theorem dX5_move_21 : decode cX5_move 21 = .ok (.iconst 2, 1) := by decide +kernel
theorem dX5_move_22 : decode cX5_move 22 = .ok (.goto 17, 3) := by decide +kernel
theorem dX5_move_25 : decode cX5_move 25 = .ok (.aload_n 0, 1) := by decide +kernel
theorem dX5_move_26 : decode cX5_move 26 = .ok (.getfield 7, 3) := by decide +kernel
theorem dX5_move_29 : decode cX5_move 29 = .ok (.iload_n 1, 1) := by decide +kernel
theorem dX5_move_30 : decode cX5_move 30 = .ok (.iaload, 1) := by decide +kernel
theorem dX5_move_31 : decode cX5_move 31 = .ok (.ifCond .ge 7, 3) := by decide +kernel
theorem dX5_move_34 : decode cX5_move 34 = .ok (.iconst 3, 1) := by decide +kernel
theorem dX5_move_35 : decode cX5_move 35 = .ok (.goto 4, 3) := by decide +kernel
theorem dX5_move_38 : decode cX5_move 38 = .ok (.iconst 0, 1) := by decide +kernel
theorem dX5_move_39 : decode cX5_move 39 = .ok (.putfield 35, 3) := by decide +kernel
theorem dX5_move_42 : decode cX5_move 42 = .ok (.aload_n 0, 1) := by decide +kernel
theorem dX5_move_43 : decode cX5_move 43 = .ok (.getfield 35, 3) := by decide +kernel
theorem dX5_move_46 : decode cX5_move 46 = .ok (.ifCond .le 5, 3) := by decide +kernel
theorem dX5_move_49 : decode cX5_move 49 = .ok (.iconst 0, 1) := by decide +kernel
theorem dX5_move_50 : decode cX5_move 50 = .ok (.ireturn, 1) := by decide +kernel
theorem dX5_move_51 : decode cX5_move 51 = .ok (.aload_n 0, 1) := by decide +kernel
theorem dX5_move_52 : decode cX5_move 52 = .ok (.getfield 7, 3) := by decide +kernel
theorem dX5_move_55 : decode cX5_move 55 = .ok (.iload_n 1, 1) := by decide +kernel
theorem dX5_move_56 : decode cX5_move 56 = .ok (.iaload, 1) := by decide +kernel
theorem dX5_move_57 : decode cX5_move 57 = .ok (.i2l, 1) := by decide +kernel
theorem dX5_move_58 : decode cX5_move 58 = .ok (.iload_n 2, 1) := by decide +kernel
theorem dX5_move_59 : decode cX5_move 59 = .ok (.i2l, 1) := by decide +kernel
theorem dX5_move_60 : decode cX5_move 60 = .ok (.ladd, 1) := by decide +kernel
theorem dX5_move_61 : decode cX5_move 61 = .ok (.lstore 4, 2) := by decide +kernel
theorem dX5_move_63 : decode cX5_move 63 = .ok (.iload_n 3, 1) := by decide +kernel
theorem dX5_move_64 : decode cX5_move 64 = .ok (.ifCond .ne 29, 3) := by decide +kernel
theorem dX5_move_67 : decode cX5_move 67 = .ok (.lload 4, 2) := by decide +kernel
theorem dX5_move_69 : decode cX5_move 69 = .ok (.lconst 0, 1) := by decide +kernel
theorem dX5_move_70 : decode cX5_move 70 = .ok (.lcmp, 1) := by decide +kernel
theorem dX5_move_71 : decode cX5_move 71 = .ok (.ifCond .lt 12, 3) := by decide +kernel
theorem dX5_move_74 : decode cX5_move 74 = .ok (.lload 4, 2) := by decide +kernel
theorem dX5_move_76 : decode cX5_move 76 = .ok (.ldc2_w 103, 3) := by decide +kernel
theorem dX5_move_79 : decode cX5_move 79 = .ok (.lcmp, 1) := by decide +kernel
theorem dX5_move_80 : decode cX5_move 80 = .ok (.ifCond .le 7, 3) := by decide +kernel
theorem dX5_move_83 : decode cX5_move 83 = .ok (.iconst (-1), 1) := by decide +kernel
theorem dX5_move_84 : decode cX5_move 84 = .ok (.goto 34, 3) := by decide +kernel
theorem dX5_move_87 : decode cX5_move 87 = .ok (.lload 4, 2) := by decide +kernel
theorem dX5_move_89 : decode cX5_move 89 = .ok (.l2i, 1) := by decide +kernel
theorem dX5_move_90 : decode cX5_move 90 = .ok (.goto 28, 3) := by decide +kernel
theorem dX5_move_93 : decode cX5_move 93 = .ok (.aload_n 0, 1) := by decide +kernel
theorem dX5_move_94 : decode cX5_move 94 = .ok (.getfield 7, 3) := by decide +kernel
theorem dX5_move_97 : decode cX5_move 97 = .ok (.iload_n 1, 1) := by decide +kernel
theorem dX5_move_98 : decode cX5_move 98 = .ok (.iaload, 1) := by decide +kernel
theorem dX5_move_99 : decode cX5_move 99 = .ok (.iload_n 3, 1) := by decide +kernel
theorem dX5_move_100 : decode cX5_move 100 = .ok (.iconst 1, 1) := by decide +kernel
theorem dX5_move_101 : decode cX5_move 101 = .ok (.if_icmp .ne 8, 3) := by decide +kernel
theorem dX5_move_104 : decode cX5_move 104 = .ok (.iload_n 2, 1) := by decide +kernel
theorem dX5_move_105 : decode cX5_move 105 = .ok (.i2l, 1) := by decide +kernel
theorem dX5_move_106 : decode cX5_move 106 = .ok (.goto 9, 3) := by decide +kernel
theorem dX5_move_109 : decode cX5_move 109 = .ok (.ldc2_w 73, 3) := by decide +kernel
theorem dX5_move_112 : decode cX5_move 112 = .ok (.iload_n 2, 1) := by decide +kernel
theorem dX5_move_113 : decode cX5_move 113 = .ok (.i2l, 1) := by decide +kernel
theorem dX5_move_114 : decode cX5_move 114 = .ok (.lmul, 1) := by decide +kernel
theorem dX5_move_115 : decode cX5_move 115 = .ok (.invokestatic 105, 3) := by decide +kernel
theorem dX5_move_118 : decode cX5_move 118 = .ok (.istore 6, 2) := by decide +kernel
theorem dX5_move_120 : decode cX5_move 120 = .ok (.aload_n 0, 1) := by decide +kernel
theorem dX5_move_121 : decode cX5_move 121 = .ok (.iload 6, 2) := by decide +kernel
theorem dX5_move_123 : decode cX5_move 123 = .ok (.ifCond .ge 7, 3) := by decide +kernel
theorem dX5_move_126 : decode cX5_move 126 = .ok (.iconst 4, 1) := by decide +kernel
theorem dX5_move_127 : decode cX5_move 127 = .ok (.goto 4, 3) := by decide +kernel
theorem dX5_move_130 : decode cX5_move 130 = .ok (.iconst 0, 1) := by decide +kernel
theorem dX5_move_131 : decode cX5_move 131 = .ok (.putfield 35, 3) := by decide +kernel
theorem dX5_move_134 : decode cX5_move 134 = .ok (.aload_n 0, 1) := by decide +kernel
theorem dX5_move_135 : decode cX5_move 135 = .ok (.getfield 35, 3) := by decide +kernel
theorem dX5_move_138 : decode cX5_move 138 = .ok (.ifCond .le 7, 3) := by decide +kernel
theorem dX5_move_141 : decode cX5_move 141 = .ok (.iconst 0, 1) := by decide +kernel
theorem dX5_move_142 : decode cX5_move 142 = .ok (.goto 10, 3) := by decide +kernel
theorem dX5_move_145 : decode cX5_move 145 = .ok (.aload_n 0, 1) := by decide +kernel
theorem dX5_move_146 : decode cX5_move 146 = .ok (.iload_n 1, 1) := by decide +kernel
theorem dX5_move_147 : decode cX5_move 147 = .ok (.iload 6, 2) := by decide +kernel
theorem dX5_move_149 : decode cX5_move 149 = .ok (.invokevirtual 86, 3) := by decide +kernel
theorem dX5_move_152 : decode cX5_move 152 = .ok (.ireturn, 1) := by decide +kernel
theorem dX5_toldOf_0 : decode cX5_toldOf 0 = .ok (.iload_n 1, 1) := by decide +kernel
theorem dX5_toldOf_1 : decode cX5_toldOf 1 = .ok (.tableswitch 127 0 9 #[55, 57, 62, 67, 72, 77, 82, 87, 99, 115], 55) := by decide +kernel
theorem dX5_toldOf_56 : decode cX5_toldOf 56 = .ok (.iload_n 0, 1) := by decide +kernel
theorem dX5_toldOf_57 : decode cX5_toldOf 57 = .ok (.ireturn, 1) := by decide +kernel
theorem dX5_toldOf_58 : decode cX5_toldOf 58 = .ok (.iload_n 0, 1) := by decide +kernel
theorem dX5_toldOf_59 : decode cX5_toldOf 59 = .ok (.invokestatic 54, 3) := by decide +kernel
theorem dX5_toldOf_62 : decode cX5_toldOf 62 = .ok (.ireturn, 1) := by decide +kernel
theorem dX5_toldOf_63 : decode cX5_toldOf 63 = .ok (.iload_n 0, 1) := by decide +kernel
theorem dX5_toldOf_64 : decode cX5_toldOf 64 = .ok (.invokestatic 61, 3) := by decide +kernel
theorem dX5_toldOf_67 : decode cX5_toldOf 67 = .ok (.ireturn, 1) := by decide +kernel
theorem dX5_toldOf_68 : decode cX5_toldOf 68 = .ok (.iload_n 0, 1) := by decide +kernel
theorem dX5_toldOf_69 : decode cX5_toldOf 69 = .ok (.invokestatic 77, 3) := by decide +kernel
theorem dX5_toldOf_72 : decode cX5_toldOf 72 = .ok (.ireturn, 1) := by decide +kernel
theorem dX5_toldOf_73 : decode cX5_toldOf 73 = .ok (.iload_n 0, 1) := by decide +kernel
theorem dX5_toldOf_74 : decode cX5_toldOf 74 = .ok (.invokestatic 64, 3) := by decide +kernel
theorem dX5_toldOf_77 : decode cX5_toldOf 77 = .ok (.ireturn, 1) := by decide +kernel
theorem dX5_toldOf_78 : decode cX5_toldOf 78 = .ok (.iload_n 0, 1) := by decide +kernel
theorem dX5_toldOf_79 : decode cX5_toldOf 79 = .ok (.invokestatic 70, 3) := by decide +kernel
theorem dX5_toldOf_82 : decode cX5_toldOf 82 = .ok (.ireturn, 1) := by decide +kernel
theorem dX5_toldOf_83 : decode cX5_toldOf 83 = .ok (.iload_n 0, 1) := by decide +kernel
theorem dX5_toldOf_84 : decode cX5_toldOf 84 = .ok (.invokestatic 109, 3) := by decide +kernel
theorem dX5_toldOf_87 : decode cX5_toldOf 87 = .ok (.ireturn, 1) := by decide +kernel
theorem dX5_toldOf_88 : decode cX5_toldOf 88 = .ok (.iload_n 0, 1) := by decide +kernel
theorem dX5_toldOf_89 : decode cX5_toldOf 89 = .ok (.iload_n 0, 1) := by decide +kernel
theorem dX5_toldOf_90 : decode cX5_toldOf 90 = .ok (.invokestatic 54, 3) := by decide +kernel
theorem dX5_toldOf_93 : decode cX5_toldOf 93 = .ok (.invokestatic 46, 3) := by decide +kernel
theorem dX5_toldOf_96 : decode cX5_toldOf 96 = .ok (.isub, 1) := by decide +kernel
theorem dX5_toldOf_97 : decode cX5_toldOf 97 = .ok (.iconst 1, 1) := by decide +kernel
theorem dX5_toldOf_98 : decode cX5_toldOf 98 = .ok (.iadd, 1) := by decide +kernel
theorem dX5_toldOf_99 : decode cX5_toldOf 99 = .ok (.ireturn, 1) := by decide +kernel
theorem dX5_toldOf_100 : decode cX5_toldOf 100 = .ok (.iload_n 0, 1) := by decide +kernel
theorem dX5_toldOf_101 : decode cX5_toldOf 101 = .ok (.invokestatic 54, 3) := by decide +kernel
theorem dX5_toldOf_104 : decode cX5_toldOf 104 = .ok (.invokestatic 42, 3) := by decide +kernel
theorem dX5_toldOf_107 : decode cX5_toldOf 107 = .ok (.ifCond .eq 7, 3) := by decide +kernel
theorem dX5_toldOf_110 : decode cX5_toldOf 110 = .ok (.iconst 1, 1) := by decide +kernel
theorem dX5_toldOf_111 : decode cX5_toldOf 111 = .ok (.goto 4, 3) := by decide +kernel
theorem dX5_toldOf_114 : decode cX5_toldOf 114 = .ok (.iconst 0, 1) := by decide +kernel
theorem dX5_toldOf_115 : decode cX5_toldOf 115 = .ok (.ireturn, 1) := by decide +kernel
theorem dX5_toldOf_116 : decode cX5_toldOf 116 = .ok (.iload_n 0, 1) := by decide +kernel
theorem dX5_toldOf_117 : decode cX5_toldOf 117 = .ok (.invokestatic 54, 3) := by decide +kernel
theorem dX5_toldOf_120 : decode cX5_toldOf 120 = .ok (.iload_n 0, 1) := by decide +kernel
theorem dX5_toldOf_121 : decode cX5_toldOf 121 = .ok (.invokestatic 61, 3) := by decide +kernel
theorem dX5_toldOf_124 : decode cX5_toldOf 124 = .ok (.invokestatic 50, 3) := by decide +kernel
theorem dX5_toldOf_127 : decode cX5_toldOf 127 = .ok (.ireturn, 1) := by decide +kernel
theorem dX5_toldOf_128 : decode cX5_toldOf 128 = .ok (.iload_n 0, 1) := by decide +kernel
theorem dX5_toldOf_129 : decode cX5_toldOf 129 = .ok (.invokestatic 70, 3) := by decide +kernel
theorem dX5_toldOf_132 : decode cX5_toldOf 132 = .ok (.invokestatic 90, 3) := by decide +kernel
theorem dX5_toldOf_135 : decode cX5_toldOf 135 = .ok (.ireturn, 1) := by decide +kernel
theorem dX5_told_0 : decode cX5_told 0 = .ok (.aload_n 0, 1) := by decide +kernel
theorem dX5_told_1 : decode cX5_told 1 = .ok (.iload_n 1, 1) := by decide +kernel
theorem dX5_told_2 : decode cX5_told 2 = .ok (.invokestatic 80, 3) := by decide +kernel
theorem dX5_told_5 : decode cX5_told 5 = .ok (.ifCond .ne 7, 3) := by decide +kernel
theorem dX5_told_8 : decode cX5_told 8 = .ok (.iconst 1, 1) := by decide +kernel
theorem dX5_told_9 : decode cX5_told 9 = .ok (.goto 31, 3) := by decide +kernel
theorem dX5_told_12 : decode cX5_told 12 = .ok (.iload_n 2, 1) := by decide +kernel
theorem dX5_told_13 : decode cX5_told 13 = .ok (.iconst 0, 1) := by decide +kernel
theorem dX5_told_14 : decode cX5_told 14 = .ok (.bipush 10, 2) := by decide +kernel
theorem dX5_told_16 : decode cX5_told 16 = .ok (.invokestatic 38, 3) := by decide +kernel
theorem dX5_told_19 : decode cX5_told 19 = .ok (.ifCond .ne 7, 3) := by decide +kernel
theorem dX5_told_22 : decode cX5_told 22 = .ok (.iconst 2, 1) := by decide +kernel
theorem dX5_told_23 : decode cX5_told 23 = .ok (.goto 17, 3) := by decide +kernel
theorem dX5_told_26 : decode cX5_told 26 = .ok (.aload_n 0, 1) := by decide +kernel
theorem dX5_told_27 : decode cX5_told 27 = .ok (.getfield 7, 3) := by decide +kernel
theorem dX5_told_30 : decode cX5_told 30 = .ok (.iload_n 1, 1) := by decide +kernel
theorem dX5_told_31 : decode cX5_told 31 = .ok (.iaload, 1) := by decide +kernel
theorem dX5_told_32 : decode cX5_told 32 = .ok (.ifCond .ge 7, 3) := by decide +kernel
theorem dX5_told_35 : decode cX5_told 35 = .ok (.iconst 3, 1) := by decide +kernel
theorem dX5_told_36 : decode cX5_told 36 = .ok (.goto 4, 3) := by decide +kernel
theorem dX5_told_39 : decode cX5_told 39 = .ok (.iconst 0, 1) := by decide +kernel
theorem dX5_told_40 : decode cX5_told 40 = .ok (.putfield 35, 3) := by decide +kernel
theorem dX5_told_43 : decode cX5_told 43 = .ok (.aload_n 0, 1) := by decide +kernel
theorem dX5_told_44 : decode cX5_told 44 = .ok (.getfield 35, 3) := by decide +kernel
theorem dX5_told_47 : decode cX5_told 47 = .ok (.ifCond .le 7, 3) := by decide +kernel
theorem dX5_told_50 : decode cX5_told 50 = .ok (.iconst 0, 1) := by decide +kernel
theorem dX5_told_51 : decode cX5_told 51 = .ok (.goto 13, 3) := by decide +kernel
theorem dX5_told_54 : decode cX5_told 54 = .ok (.aload_n 0, 1) := by decide +kernel
theorem dX5_told_55 : decode cX5_told 55 = .ok (.getfield 7, 3) := by decide +kernel
theorem dX5_told_58 : decode cX5_told 58 = .ok (.iload_n 1, 1) := by decide +kernel
theorem dX5_told_59 : decode cX5_told 59 = .ok (.iaload, 1) := by decide +kernel
theorem dX5_told_60 : decode cX5_told 60 = .ok (.iload_n 2, 1) := by decide +kernel
theorem dX5_told_61 : decode cX5_told 61 = .ok (.invokestatic 112, 3) := by decide +kernel
theorem dX5_told_64 : decode cX5_told 64 = .ok (.ireturn, 1) := by decide +kernel
theorem dX5_wholes_0 : decode cX5_wholes 0 = .ok (.bipush 12, 2) := by decide +kernel
theorem dX5_wholes_2 : decode cX5_wholes 2 = .ok (.iload_n 1, 1) := by decide +kernel
theorem dX5_wholes_3 : decode cX5_wholes 3 = .ok (.invokestatic 54, 3) := by decide +kernel
theorem dX5_wholes_6 : decode cX5_wholes 6 = .ok (.iload_n 0, 1) := by decide +kernel
theorem dX5_wholes_7 : decode cX5_wholes 7 = .ok (.invokestatic 54, 3) := by decide +kernel
theorem dX5_wholes_10 : decode cX5_wholes 10 = .ok (.isub, 1) := by decide +kernel
theorem dX5_wholes_11 : decode cX5_wholes 11 = .ok (.imul, 1) := by decide +kernel
theorem dX5_wholes_12 : decode cX5_wholes 12 = .ok (.iload_n 1, 1) := by decide +kernel
theorem dX5_wholes_13 : decode cX5_wholes 13 = .ok (.invokestatic 61, 3) := by decide +kernel
theorem dX5_wholes_16 : decode cX5_wholes 16 = .ok (.iadd, 1) := by decide +kernel
theorem dX5_wholes_17 : decode cX5_wholes 17 = .ok (.iload_n 0, 1) := by decide +kernel
theorem dX5_wholes_18 : decode cX5_wholes 18 = .ok (.invokestatic 61, 3) := by decide +kernel
theorem dX5_wholes_21 : decode cX5_wholes 21 = .ok (.isub, 1) := by decide +kernel
theorem dX5_wholes_22 : decode cX5_wholes 22 = .ok (.iload_n 2, 1) := by decide +kernel
theorem dX5_wholes_23 : decode cX5_wholes 23 = .ok (.idiv, 1) := by decide +kernel
theorem dX5_wholes_24 : decode cX5_wholes 24 = .ok (.iconst 1, 1) := by decide +kernel
theorem dX5_wholes_25 : decode cX5_wholes 25 = .ok (.iadd, 1) := by decide +kernel
theorem dX5_wholes_26 : decode cX5_wholes 26 = .ok (.istore_n 3, 1) := by decide +kernel
theorem dX5_wholes_27 : decode cX5_wholes 27 = .ok (.iload_n 0, 1) := by decide +kernel
theorem dX5_wholes_28 : decode cX5_wholes 28 = .ok (.iload_n 3, 1) := by decide +kernel
theorem dX5_wholes_29 : decode cX5_wholes 29 = .ok (.i2l, 1) := by decide +kernel
theorem dX5_wholes_30 : decode cX5_wholes 30 = .ok (.iload_n 2, 1) := by decide +kernel
theorem dX5_wholes_31 : decode cX5_wholes 31 = .ok (.i2l, 1) := by decide +kernel
theorem dX5_wholes_32 : decode cX5_wholes 32 = .ok (.lmul, 1) := by decide +kernel
theorem dX5_wholes_33 : decode cX5_wholes 33 = .ok (.invokestatic 105, 3) := by decide +kernel
theorem dX5_wholes_36 : decode cX5_wholes 36 = .ok (.istore 4, 2) := by decide +kernel
theorem dX5_wholes_38 : decode cX5_wholes 38 = .ok (.iload_n 3, 1) := by decide +kernel
theorem dX5_wholes_39 : decode cX5_wholes 39 = .ok (.ifCond .le 31, 3) := by decide +kernel
theorem dX5_wholes_42 : decode cX5_wholes 42 = .ok (.iload 4, 2) := by decide +kernel
theorem dX5_wholes_44 : decode cX5_wholes 44 = .ok (.ifCond .lt 9, 3) := by decide +kernel
theorem dX5_wholes_47 : decode cX5_wholes 47 = .ok (.iload 4, 2) := by decide +kernel
theorem dX5_wholes_49 : decode cX5_wholes 49 = .ok (.iload_n 1, 1) := by decide +kernel
theorem dX5_wholes_50 : decode cX5_wholes 50 = .ok (.if_icmp .le 20, 3) := by decide +kernel
theorem dX5_wholes_53 : decode cX5_wholes 53 = .ok (.iinc 3 (-1), 3) := by decide +kernel
theorem dX5_wholes_56 : decode cX5_wholes 56 = .ok (.iload_n 0, 1) := by decide +kernel
theorem dX5_wholes_57 : decode cX5_wholes 57 = .ok (.iload_n 3, 1) := by decide +kernel
theorem dX5_wholes_58 : decode cX5_wholes 58 = .ok (.i2l, 1) := by decide +kernel
theorem dX5_wholes_59 : decode cX5_wholes 59 = .ok (.iload_n 2, 1) := by decide +kernel
theorem dX5_wholes_60 : decode cX5_wholes 60 = .ok (.i2l, 1) := by decide +kernel
theorem dX5_wholes_61 : decode cX5_wholes 61 = .ok (.lmul, 1) := by decide +kernel
theorem dX5_wholes_62 : decode cX5_wholes 62 = .ok (.invokestatic 105, 3) := by decide +kernel
theorem dX5_wholes_65 : decode cX5_wholes 65 = .ok (.istore 4, 2) := by decide +kernel
theorem dX5_wholes_67 : decode cX5_wholes 67 = .ok (.goto (-29), 3) := by decide +kernel
theorem dX5_wholes_70 : decode cX5_wholes 70 = .ok (.iload_n 3, 1) := by decide +kernel
theorem dX5_wholes_71 : decode cX5_wholes 71 = .ok (.ireturn, 1) := by decide +kernel
theorem dX5_between_0 : decode cX5_between 0 = .ok (.aload_n 0, 1) := by decide +kernel
theorem dX5_between_1 : decode cX5_between 1 = .ok (.iload_n 1, 1) := by decide +kernel
theorem dX5_between_2 : decode cX5_between 2 = .ok (.invokestatic 80, 3) := by decide +kernel
theorem dX5_between_5 : decode cX5_between 5 = .ok (.ifCond .eq 10, 3) := by decide +kernel
theorem dX5_between_8 : decode cX5_between 8 = .ok (.iload_n 2, 1) := by decide +kernel
theorem dX5_between_9 : decode cX5_between 9 = .ok (.invokestatic 80, 3) := by decide +kernel
theorem dX5_between_12 : decode cX5_between 12 = .ok (.ifCond .ne 7, 3) := by decide +kernel
theorem dX5_between_15 : decode cX5_between 15 = .ok (.iconst 1, 1) := by decide +kernel
theorem dX5_between_16 : decode cX5_between 16 = .ok (.goto 39, 3) := by decide +kernel
theorem dX5_between_19 : decode cX5_between 19 = .ok (.iload_n 3, 1) := by decide +kernel
theorem dX5_between_20 : decode cX5_between 20 = .ok (.iconst 0, 1) := by decide +kernel
theorem dX5_between_21 : decode cX5_between 21 = .ok (.iconst 2, 1) := by decide +kernel
theorem dX5_between_22 : decode cX5_between 22 = .ok (.invokestatic 38, 3) := by decide +kernel
theorem dX5_between_25 : decode cX5_between 25 = .ok (.ifCond .ne 7, 3) := by decide +kernel
theorem dX5_between_28 : decode cX5_between 28 = .ok (.iconst 2, 1) := by decide +kernel
theorem dX5_between_29 : decode cX5_between 29 = .ok (.goto 26, 3) := by decide +kernel
theorem dX5_between_32 : decode cX5_between 32 = .ok (.aload_n 0, 1) := by decide +kernel
theorem dX5_between_33 : decode cX5_between 33 = .ok (.getfield 7, 3) := by decide +kernel
theorem dX5_between_36 : decode cX5_between 36 = .ok (.iload_n 1, 1) := by decide +kernel
theorem dX5_between_37 : decode cX5_between 37 = .ok (.iaload, 1) := by decide +kernel
theorem dX5_between_38 : decode cX5_between 38 = .ok (.ifCond .lt 12, 3) := by decide +kernel
theorem dX5_between_41 : decode cX5_between 41 = .ok (.aload_n 0, 1) := by decide +kernel
theorem dX5_between_42 : decode cX5_between 42 = .ok (.getfield 7, 3) := by decide +kernel
theorem dX5_between_45 : decode cX5_between 45 = .ok (.iload_n 2, 1) := by decide +kernel
theorem dX5_between_46 : decode cX5_between 46 = .ok (.iaload, 1) := by decide +kernel
theorem dX5_between_47 : decode cX5_between 47 = .ok (.ifCond .ge 7, 3) := by decide +kernel
theorem dX5_between_50 : decode cX5_between 50 = .ok (.iconst 3, 1) := by decide +kernel
theorem dX5_between_51 : decode cX5_between 51 = .ok (.goto 4, 3) := by decide +kernel
theorem dX5_between_54 : decode cX5_between 54 = .ok (.iconst 0, 1) := by decide +kernel
theorem dX5_between_55 : decode cX5_between 55 = .ok (.putfield 35, 3) := by decide +kernel
theorem dX5_between_58 : decode cX5_between 58 = .ok (.aload_n 0, 1) := by decide +kernel
theorem dX5_between_59 : decode cX5_between 59 = .ok (.getfield 35, 3) := by decide +kernel
theorem dX5_between_62 : decode cX5_between 62 = .ok (.ifCond .le 5, 3) := by decide +kernel
theorem dX5_between_65 : decode cX5_between 65 = .ok (.iconst 0, 1) := by decide +kernel
theorem dX5_between_66 : decode cX5_between 66 = .ok (.ireturn, 1) := by decide +kernel
theorem dX5_between_67 : decode cX5_between 67 = .ok (.aload_n 0, 1) := by decide +kernel
theorem dX5_between_68 : decode cX5_between 68 = .ok (.getfield 7, 3) := by decide +kernel
theorem dX5_between_71 : decode cX5_between 71 = .ok (.iload_n 1, 1) := by decide +kernel
theorem dX5_between_72 : decode cX5_between 72 = .ok (.iaload, 1) := by decide +kernel
theorem dX5_between_73 : decode cX5_between 73 = .ok (.istore 4, 2) := by decide +kernel
theorem dX5_between_75 : decode cX5_between 75 = .ok (.aload_n 0, 1) := by decide +kernel
theorem dX5_between_76 : decode cX5_between 76 = .ok (.getfield 7, 3) := by decide +kernel
theorem dX5_between_79 : decode cX5_between 79 = .ok (.iload_n 2, 1) := by decide +kernel
theorem dX5_between_80 : decode cX5_between 80 = .ok (.iaload, 1) := by decide +kernel
theorem dX5_between_81 : decode cX5_between 81 = .ok (.istore 5, 2) := by decide +kernel
theorem dX5_between_83 : decode cX5_between 83 = .ok (.iload_n 3, 1) := by decide +kernel
theorem dX5_between_84 : decode cX5_between 84 = .ok (.ifCond .ne 9, 3) := by decide +kernel
theorem dX5_between_87 : decode cX5_between 87 = .ok (.iload 5, 2) := by decide +kernel
theorem dX5_between_89 : decode cX5_between 89 = .ok (.iload 4, 2) := by decide +kernel
theorem dX5_between_91 : decode cX5_between 91 = .ok (.isub, 1) := by decide +kernel
theorem dX5_between_92 : decode cX5_between 92 = .ok (.ireturn, 1) := by decide +kernel
theorem dX5_between_93 : decode cX5_between 93 = .ok (.iload_n 3, 1) := by decide +kernel
theorem dX5_between_94 : decode cX5_between 94 = .ok (.iconst 1, 1) := by decide +kernel
theorem dX5_between_95 : decode cX5_between 95 = .ok (.if_icmp .ne 7, 3) := by decide +kernel
theorem dX5_between_98 : decode cX5_between 98 = .ok (.iconst 1, 1) := by decide +kernel
theorem dX5_between_99 : decode cX5_between 99 = .ok (.goto 5, 3) := by decide +kernel
theorem dX5_between_102 : decode cX5_between 102 = .ok (.bipush 12, 2) := by decide +kernel
theorem dX5_between_104 : decode cX5_between 104 = .ok (.istore 6, 2) := by decide +kernel
theorem dX5_between_106 : decode cX5_between 106 = .ok (.iload 5, 2) := by decide +kernel
theorem dX5_between_108 : decode cX5_between 108 = .ok (.iload 4, 2) := by decide +kernel
theorem dX5_between_110 : decode cX5_between 110 = .ok (.if_icmp .lt 15, 3) := by decide +kernel
theorem dX5_between_113 : decode cX5_between 113 = .ok (.iload 4, 2) := by decide +kernel
theorem dX5_between_115 : decode cX5_between 115 = .ok (.iload 5, 2) := by decide +kernel
theorem dX5_between_117 : decode cX5_between 117 = .ok (.iload 6, 2) := by decide +kernel
theorem dX5_between_119 : decode cX5_between 119 = .ok (.invokestatic 115, 3) := by decide +kernel
theorem dX5_between_122 : decode cX5_between 122 = .ok (.goto 13, 3) := by decide +kernel
theorem dX5_between_125 : decode cX5_between 125 = .ok (.iload 5, 2) := by decide +kernel
theorem dX5_between_127 : decode cX5_between 127 = .ok (.iload 4, 2) := by decide +kernel
theorem dX5_between_129 : decode cX5_between 129 = .ok (.iload 6, 2) := by decide +kernel
theorem dX5_between_131 : decode cX5_between 131 = .ok (.invokestatic 115, 3) := by decide +kernel
theorem dX5_between_134 : decode cX5_between 134 = .ok (.ineg, 1) := by decide +kernel
theorem dX5_between_135 : decode cX5_between 135 = .ok (.ireturn, 1) := by decide +kernel
theorem dX5_copy_0 : decode cX5_copy 0 = .ok (.aload_n 0, 1) := by decide +kernel
theorem dX5_copy_1 : decode cX5_copy 1 = .ok (.iload_n 1, 1) := by decide +kernel
theorem dX5_copy_2 : decode cX5_copy 2 = .ok (.invokestatic 80, 3) := by decide +kernel
theorem dX5_copy_5 : decode cX5_copy 5 = .ok (.ifCond .eq 10, 3) := by decide +kernel
theorem dX5_copy_8 : decode cX5_copy 8 = .ok (.iload_n 2, 1) := by decide +kernel
theorem dX5_copy_9 : decode cX5_copy 9 = .ok (.invokestatic 80, 3) := by decide +kernel
theorem dX5_copy_12 : decode cX5_copy 12 = .ok (.ifCond .ne 7, 3) := by decide +kernel
theorem dX5_copy_15 : decode cX5_copy 15 = .ok (.iconst 1, 1) := by decide +kernel
theorem dX5_copy_16 : decode cX5_copy 16 = .ok (.goto 17, 3) := by decide +kernel
theorem dX5_copy_19 : decode cX5_copy 19 = .ok (.aload_n 0, 1) := by decide +kernel
theorem dX5_copy_20 : decode cX5_copy 20 = .ok (.getfield 7, 3) := by decide +kernel
theorem dX5_copy_23 : decode cX5_copy 23 = .ok (.iload_n 1, 1) := by decide +kernel
theorem dX5_copy_24 : decode cX5_copy 24 = .ok (.iaload, 1) := by decide +kernel
theorem dX5_copy_25 : decode cX5_copy 25 = .ok (.ifCond .ge 7, 3) := by decide +kernel
theorem dX5_copy_28 : decode cX5_copy 28 = .ok (.iconst 2, 1) := by decide +kernel
theorem dX5_copy_29 : decode cX5_copy 29 = .ok (.goto 4, 3) := by decide +kernel
theorem dX5_copy_32 : decode cX5_copy 32 = .ok (.iconst 0, 1) := by decide +kernel
theorem dX5_copy_33 : decode cX5_copy 33 = .ok (.putfield 35, 3) := by decide +kernel
theorem dX5_copy_36 : decode cX5_copy 36 = .ok (.aload_n 0, 1) := by decide +kernel
theorem dX5_copy_37 : decode cX5_copy 37 = .ok (.getfield 35, 3) := by decide +kernel
theorem dX5_copy_40 : decode cX5_copy 40 = .ok (.ifCond .le 7, 3) := by decide +kernel
theorem dX5_copy_43 : decode cX5_copy 43 = .ok (.iconst 0, 1) := by decide +kernel
theorem dX5_copy_44 : decode cX5_copy 44 = .ok (.goto 14, 3) := by decide +kernel
theorem dX5_copy_47 : decode cX5_copy 47 = .ok (.aload_n 0, 1) := by decide +kernel
theorem dX5_copy_48 : decode cX5_copy 48 = .ok (.iload_n 2, 1) := by decide +kernel
theorem dX5_copy_49 : decode cX5_copy 49 = .ok (.aload_n 0, 1) := by decide +kernel
theorem dX5_copy_50 : decode cX5_copy 50 = .ok (.getfield 7, 3) := by decide +kernel
theorem dX5_copy_53 : decode cX5_copy 53 = .ok (.iload_n 1, 1) := by decide +kernel
theorem dX5_copy_54 : decode cX5_copy 54 = .ok (.iaload, 1) := by decide +kernel
theorem dX5_copy_55 : decode cX5_copy 55 = .ok (.invokevirtual 86, 3) := by decide +kernel
theorem dX5_copy_58 : decode cX5_copy 58 = .ok (.ireturn, 1) := by decide +kernel
theorem dX5_isRule_0 : decode cX5_isRule 0 = .ok (.iload_n 0, 1) := by decide +kernel
theorem dX5_isRule_1 : decode cX5_isRule 1 = .ok (.tableswitch 109 0 3 #[31, 60, 69, 31], 31) := by decide +kernel
theorem dX5_isRule_32 : decode cX5_isRule 32 = .ok (.iload_n 1, 1) := by decide +kernel
theorem dX5_isRule_33 : decode cX5_isRule 33 = .ok (.iconst 1, 1) := by decide +kernel
theorem dX5_isRule_34 : decode cX5_isRule 34 = .ok (.bipush 12, 2) := by decide +kernel
theorem dX5_isRule_36 : decode cX5_isRule 36 = .ok (.invokestatic 38, 3) := by decide +kernel
theorem dX5_isRule_39 : decode cX5_isRule 39 = .ok (.ifCond .eq 20, 3) := by decide +kernel
theorem dX5_isRule_42 : decode cX5_isRule 42 = .ok (.iload_n 2, 1) := by decide +kernel
theorem dX5_isRule_43 : decode cX5_isRule 43 = .ok (.iconst 1, 1) := by decide +kernel
theorem dX5_isRule_44 : decode cX5_isRule 44 = .ok (.iconst 4, 1) := by decide +kernel
theorem dX5_isRule_45 : decode cX5_isRule 45 = .ok (.iload_n 1, 1) := by decide +kernel
theorem dX5_isRule_46 : decode cX5_isRule 46 = .ok (.invokestatic 50, 3) := by decide +kernel
theorem dX5_isRule_49 : decode cX5_isRule 49 = .ok (.invokestatic 38, 3) := by decide +kernel
theorem dX5_isRule_52 : decode cX5_isRule 52 = .ok (.ifCond .eq 7, 3) := by decide +kernel
theorem dX5_isRule_55 : decode cX5_isRule 55 = .ok (.iconst 1, 1) := by decide +kernel
theorem dX5_isRule_56 : decode cX5_isRule 56 = .ok (.goto 4, 3) := by decide +kernel
theorem dX5_isRule_59 : decode cX5_isRule 59 = .ok (.iconst 0, 1) := by decide +kernel
theorem dX5_isRule_60 : decode cX5_isRule 60 = .ok (.ireturn, 1) := by decide +kernel
theorem dX5_isRule_61 : decode cX5_isRule 61 = .ok (.iload_n 1, 1) := by decide +kernel
theorem dX5_isRule_62 : decode cX5_isRule 62 = .ok (.bipush (-100), 2) := by decide +kernel
theorem dX5_isRule_64 : decode cX5_isRule 64 = .ok (.bipush 100, 2) := by decide +kernel
theorem dX5_isRule_66 : decode cX5_isRule 66 = .ok (.invokestatic 38, 3) := by decide +kernel
theorem dX5_isRule_69 : decode cX5_isRule 69 = .ok (.ireturn, 1) := by decide +kernel
theorem dX5_isRule_70 : decode cX5_isRule 70 = .ok (.iload_n 1, 1) := by decide +kernel
theorem dX5_isRule_71 : decode cX5_isRule 71 = .ok (.iconst 1, 1) := by decide +kernel
theorem dX5_isRule_72 : decode cX5_isRule 72 = .ok (.bipush 12, 2) := by decide +kernel
theorem dX5_isRule_74 : decode cX5_isRule 74 = .ok (.invokestatic 38, 3) := by decide +kernel
theorem dX5_isRule_77 : decode cX5_isRule 77 = .ok (.ifCond .eq 31, 3) := by decide +kernel
theorem dX5_isRule_80 : decode cX5_isRule 80 = .ok (.iload_n 2, 1) := by decide +kernel
theorem dX5_isRule_81 : decode cX5_isRule 81 = .ok (.iconst 1, 1) := by decide +kernel
theorem dX5_isRule_82 : decode cX5_isRule 82 = .ok (.bipush 7, 2) := by decide +kernel
theorem dX5_isRule_84 : decode cX5_isRule 84 = .ok (.invokestatic 38, 3) := by decide +kernel
theorem dX5_isRule_87 : decode cX5_isRule 87 = .ok (.ifCond .eq 21, 3) := by decide +kernel
theorem dX5_isRule_90 : decode cX5_isRule 90 = .ok (.iload_n 3, 1) := by decide +kernel
theorem dX5_isRule_91 : decode cX5_isRule 91 = .ok (.iconst 1, 1) := by decide +kernel
theorem dX5_isRule_92 : decode cX5_isRule 92 = .ok (.iconst 4, 1) := by decide +kernel
theorem dX5_isRule_93 : decode cX5_isRule 93 = .ok (.invokestatic 38, 3) := by decide +kernel
theorem dX5_isRule_96 : decode cX5_isRule 96 = .ok (.ifCond .ne 8, 3) := by decide +kernel
theorem dX5_isRule_99 : decode cX5_isRule 99 = .ok (.iload_n 3, 1) := by decide +kernel
theorem dX5_isRule_100 : decode cX5_isRule 100 = .ok (.iconst (-1), 1) := by decide +kernel
theorem dX5_isRule_101 : decode cX5_isRule 101 = .ok (.if_icmp .ne 7, 3) := by decide +kernel
theorem dX5_isRule_104 : decode cX5_isRule 104 = .ok (.iconst 1, 1) := by decide +kernel
theorem dX5_isRule_105 : decode cX5_isRule 105 = .ok (.goto 4, 3) := by decide +kernel
theorem dX5_isRule_108 : decode cX5_isRule 108 = .ok (.iconst 0, 1) := by decide +kernel
theorem dX5_isRule_109 : decode cX5_isRule 109 = .ok (.ireturn, 1) := by decide +kernel
theorem dX5_isRule_110 : decode cX5_isRule 110 = .ok (.iconst 0, 1) := by decide +kernel
theorem dX5_isRule_111 : decode cX5_isRule 111 = .ok (.ireturn, 1) := by decide +kernel
theorem dX5_holiday_0 : decode cX5_holiday 0 = .ok (.aload_n 0, 1) := by decide +kernel
theorem dX5_holiday_1 : decode cX5_holiday 1 = .ok (.iload_n 1, 1) := by decide +kernel
theorem dX5_holiday_2 : decode cX5_holiday 2 = .ok (.iload_n 2, 1) := by decide +kernel
theorem dX5_holiday_3 : decode cX5_holiday 3 = .ok (.iload_n 3, 1) := by decide +kernel
theorem dX5_holiday_4 : decode cX5_holiday 4 = .ok (.iload 4, 2) := by decide +kernel
theorem dX5_holiday_6 : decode cX5_holiday 6 = .ok (.invokestatic 118, 3) := by decide +kernel
theorem dX5_holiday_9 : decode cX5_holiday 9 = .ok (.ifCond .ne 7, 3) := by decide +kernel
theorem dX5_holiday_12 : decode cX5_holiday 12 = .ok (.iconst 1, 1) := by decide +kernel
theorem dX5_holiday_13 : decode cX5_holiday 13 = .ok (.goto 17, 3) := by decide +kernel
theorem dX5_holiday_16 : decode cX5_holiday 16 = .ok (.aload_n 0, 1) := by decide +kernel
theorem dX5_holiday_17 : decode cX5_holiday 17 = .ok (.getfield 122, 3) := by decide +kernel
theorem dX5_holiday_20 : decode cX5_holiday 20 = .ok (.bipush 12, 2) := by decide +kernel
theorem dX5_holiday_22 : decode cX5_holiday 22 = .ok (.if_icmp .ne 7, 3) := by decide +kernel
theorem dX5_holiday_25 : decode cX5_holiday 25 = .ok (.iconst 2, 1) := by decide +kernel
theorem dX5_holiday_26 : decode cX5_holiday 26 = .ok (.goto 4, 3) := by decide +kernel
theorem dX5_holiday_29 : decode cX5_holiday 29 = .ok (.iconst 0, 1) := by decide +kernel
theorem dX5_holiday_30 : decode cX5_holiday 30 = .ok (.putfield 35, 3) := by decide +kernel
theorem dX5_holiday_33 : decode cX5_holiday 33 = .ok (.aload_n 0, 1) := by decide +kernel
theorem dX5_holiday_34 : decode cX5_holiday 34 = .ok (.getfield 35, 3) := by decide +kernel
theorem dX5_holiday_37 : decode cX5_holiday 37 = .ok (.ifCond .le 5, 3) := by decide +kernel
theorem dX5_holiday_40 : decode cX5_holiday 40 = .ok (.iconst 0, 1) := by decide +kernel
theorem dX5_holiday_41 : decode cX5_holiday 41 = .ok (.ireturn, 1) := by decide +kernel
theorem dX5_holiday_42 : decode cX5_holiday 42 = .ok (.aload_n 0, 1) := by decide +kernel
theorem dX5_holiday_43 : decode cX5_holiday 43 = .ok (.getfield 13, 3) := by decide +kernel
theorem dX5_holiday_46 : decode cX5_holiday 46 = .ok (.aload_n 0, 1) := by decide +kernel
theorem dX5_holiday_47 : decode cX5_holiday 47 = .ok (.getfield 122, 3) := by decide +kernel
theorem dX5_holiday_50 : decode cX5_holiday 50 = .ok (.iload_n 1, 1) := by decide +kernel
theorem dX5_holiday_51 : decode cX5_holiday 51 = .ok (.iastore, 1) := by decide +kernel
theorem dX5_holiday_52 : decode cX5_holiday 52 = .ok (.aload_n 0, 1) := by decide +kernel
theorem dX5_holiday_53 : decode cX5_holiday 53 = .ok (.getfield 16, 3) := by decide +kernel
theorem dX5_holiday_56 : decode cX5_holiday 56 = .ok (.aload_n 0, 1) := by decide +kernel
theorem dX5_holiday_57 : decode cX5_holiday 57 = .ok (.getfield 122, 3) := by decide +kernel
theorem dX5_holiday_60 : decode cX5_holiday 60 = .ok (.iload_n 2, 1) := by decide +kernel
theorem dX5_holiday_61 : decode cX5_holiday 61 = .ok (.iastore, 1) := by decide +kernel
theorem dX5_holiday_62 : decode cX5_holiday 62 = .ok (.aload_n 0, 1) := by decide +kernel
theorem dX5_holiday_63 : decode cX5_holiday 63 = .ok (.getfield 19, 3) := by decide +kernel
theorem dX5_holiday_66 : decode cX5_holiday 66 = .ok (.aload_n 0, 1) := by decide +kernel
theorem dX5_holiday_67 : decode cX5_holiday 67 = .ok (.getfield 122, 3) := by decide +kernel
theorem dX5_holiday_70 : decode cX5_holiday 70 = .ok (.iload_n 3, 1) := by decide +kernel
theorem dX5_holiday_71 : decode cX5_holiday 71 = .ok (.iastore, 1) := by decide +kernel
theorem dX5_holiday_72 : decode cX5_holiday 72 = .ok (.aload_n 0, 1) := by decide +kernel
theorem dX5_holiday_73 : decode cX5_holiday 73 = .ok (.getfield 22, 3) := by decide +kernel
theorem dX5_holiday_76 : decode cX5_holiday 76 = .ok (.aload_n 0, 1) := by decide +kernel
theorem dX5_holiday_77 : decode cX5_holiday 77 = .ok (.getfield 122, 3) := by decide +kernel
theorem dX5_holiday_80 : decode cX5_holiday 80 = .ok (.iload 4, 2) := by decide +kernel
theorem dX5_holiday_82 : decode cX5_holiday 82 = .ok (.iastore, 1) := by decide +kernel
theorem dX5_holiday_83 : decode cX5_holiday 83 = .ok (.aload_n 0, 1) := by decide +kernel
theorem dX5_holiday_84 : decode cX5_holiday 84 = .ok (.dup, 1) := by decide +kernel
theorem dX5_holiday_85 : decode cX5_holiday 85 = .ok (.getfield 122, 3) := by decide +kernel
theorem dX5_holiday_88 : decode cX5_holiday 88 = .ok (.iconst 1, 1) := by decide +kernel
theorem dX5_holiday_89 : decode cX5_holiday 89 = .ok (.iadd, 1) := by decide +kernel
theorem dX5_holiday_90 : decode cX5_holiday 90 = .ok (.putfield 122, 3) := by decide +kernel
theorem dX5_holiday_93 : decode cX5_holiday 93 = .ok (.aload_n 0, 1) := by decide +kernel
theorem dX5_holiday_94 : decode cX5_holiday 94 = .ok (.getfield 122, 3) := by decide +kernel
theorem dX5_holiday_97 : decode cX5_holiday 97 = .ok (.ireturn, 1) := by decide +kernel
theorem dX5_noHoliday_0 : decode cX5_noHoliday 0 = .ok (.aload_n 0, 1) := by decide +kernel
theorem dX5_noHoliday_1 : decode cX5_noHoliday 1 = .ok (.iload_n 1, 1) := by decide +kernel
theorem dX5_noHoliday_2 : decode cX5_noHoliday 2 = .ok (.iconst 0, 1) := by decide +kernel
theorem dX5_noHoliday_3 : decode cX5_noHoliday 3 = .ok (.aload_n 0, 1) := by decide +kernel
theorem dX5_noHoliday_4 : decode cX5_noHoliday 4 = .ok (.getfield 122, 3) := by decide +kernel
theorem dX5_noHoliday_7 : decode cX5_noHoliday 7 = .ok (.iconst 1, 1) := by decide +kernel
theorem dX5_noHoliday_8 : decode cX5_noHoliday 8 = .ok (.isub, 1) := by decide +kernel
theorem dX5_noHoliday_9 : decode cX5_noHoliday 9 = .ok (.invokestatic 38, 3) := by decide +kernel
theorem dX5_noHoliday_12 : decode cX5_noHoliday 12 = .ok (.ifCond .eq 7, 3) := by decide +kernel
theorem dX5_noHoliday_15 : decode cX5_noHoliday 15 = .ok (.iconst 0, 1) := by decide +kernel
theorem dX5_noHoliday_16 : decode cX5_noHoliday 16 = .ok (.goto 4, 3) := by decide +kernel
theorem dX5_noHoliday_19 : decode cX5_noHoliday 19 = .ok (.iconst 1, 1) := by decide +kernel
theorem dX5_noHoliday_20 : decode cX5_noHoliday 20 = .ok (.putfield 35, 3) := by decide +kernel
theorem dX5_noHoliday_23 : decode cX5_noHoliday 23 = .ok (.aload_n 0, 1) := by decide +kernel
theorem dX5_noHoliday_24 : decode cX5_noHoliday 24 = .ok (.getfield 35, 3) := by decide +kernel
theorem dX5_noHoliday_27 : decode cX5_noHoliday 27 = .ok (.ifCond .le 5, 3) := by decide +kernel
theorem dX5_noHoliday_30 : decode cX5_noHoliday 30 = .ok (.iconst 0, 1) := by decide +kernel
theorem dX5_noHoliday_31 : decode cX5_noHoliday 31 = .ok (.ireturn, 1) := by decide +kernel
theorem dX5_noHoliday_32 : decode cX5_noHoliday 32 = .ok (.aload_n 0, 1) := by decide +kernel
theorem dX5_noHoliday_33 : decode cX5_noHoliday 33 = .ok (.dup, 1) := by decide +kernel
theorem dX5_noHoliday_34 : decode cX5_noHoliday 34 = .ok (.getfield 122, 3) := by decide +kernel
theorem dX5_noHoliday_37 : decode cX5_noHoliday 37 = .ok (.iconst 1, 1) := by decide +kernel
theorem dX5_noHoliday_38 : decode cX5_noHoliday 38 = .ok (.isub, 1) := by decide +kernel
theorem dX5_noHoliday_39 : decode cX5_noHoliday 39 = .ok (.putfield 122, 3) := by decide +kernel
theorem dX5_noHoliday_42 : decode cX5_noHoliday 42 = .ok (.iload_n 1, 1) := by decide +kernel
theorem dX5_noHoliday_43 : decode cX5_noHoliday 43 = .ok (.istore_n 2, 1) := by decide +kernel
theorem dX5_noHoliday_44 : decode cX5_noHoliday 44 = .ok (.iload_n 2, 1) := by decide +kernel
theorem dX5_noHoliday_45 : decode cX5_noHoliday 45 = .ok (.aload_n 0, 1) := by decide +kernel
theorem dX5_noHoliday_46 : decode cX5_noHoliday 46 = .ok (.getfield 122, 3) := by decide +kernel
theorem dX5_noHoliday_49 : decode cX5_noHoliday 49 = .ok (.if_icmp .ge 65, 3) := by decide +kernel
theorem dX5_noHoliday_52 : decode cX5_noHoliday 52 = .ok (.aload_n 0, 1) := by decide +kernel
theorem dX5_noHoliday_53 : decode cX5_noHoliday 53 = .ok (.getfield 13, 3) := by decide +kernel
theorem dX5_noHoliday_56 : decode cX5_noHoliday 56 = .ok (.iload_n 2, 1) := by decide +kernel
theorem dX5_noHoliday_57 : decode cX5_noHoliday 57 = .ok (.aload_n 0, 1) := by decide +kernel
theorem dX5_noHoliday_58 : decode cX5_noHoliday 58 = .ok (.getfield 13, 3) := by decide +kernel
theorem dX5_noHoliday_61 : decode cX5_noHoliday 61 = .ok (.iload_n 2, 1) := by decide +kernel
theorem dX5_noHoliday_62 : decode cX5_noHoliday 62 = .ok (.iconst 1, 1) := by decide +kernel
theorem dX5_noHoliday_63 : decode cX5_noHoliday 63 = .ok (.iadd, 1) := by decide +kernel
theorem dX5_noHoliday_64 : decode cX5_noHoliday 64 = .ok (.iaload, 1) := by decide +kernel
theorem dX5_noHoliday_65 : decode cX5_noHoliday 65 = .ok (.iastore, 1) := by decide +kernel
theorem dX5_noHoliday_66 : decode cX5_noHoliday 66 = .ok (.aload_n 0, 1) := by decide +kernel
theorem dX5_noHoliday_67 : decode cX5_noHoliday 67 = .ok (.getfield 16, 3) := by decide +kernel
theorem dX5_noHoliday_70 : decode cX5_noHoliday 70 = .ok (.iload_n 2, 1) := by decide +kernel
theorem dX5_noHoliday_71 : decode cX5_noHoliday 71 = .ok (.aload_n 0, 1) := by decide +kernel
theorem dX5_noHoliday_72 : decode cX5_noHoliday 72 = .ok (.getfield 16, 3) := by decide +kernel
theorem dX5_noHoliday_75 : decode cX5_noHoliday 75 = .ok (.iload_n 2, 1) := by decide +kernel
theorem dX5_noHoliday_76 : decode cX5_noHoliday 76 = .ok (.iconst 1, 1) := by decide +kernel
theorem dX5_noHoliday_77 : decode cX5_noHoliday 77 = .ok (.iadd, 1) := by decide +kernel
theorem dX5_noHoliday_78 : decode cX5_noHoliday 78 = .ok (.iaload, 1) := by decide +kernel
theorem dX5_noHoliday_79 : decode cX5_noHoliday 79 = .ok (.iastore, 1) := by decide +kernel
theorem dX5_noHoliday_80 : decode cX5_noHoliday 80 = .ok (.aload_n 0, 1) := by decide +kernel
theorem dX5_noHoliday_81 : decode cX5_noHoliday 81 = .ok (.getfield 19, 3) := by decide +kernel
theorem dX5_noHoliday_84 : decode cX5_noHoliday 84 = .ok (.iload_n 2, 1) := by decide +kernel
theorem dX5_noHoliday_85 : decode cX5_noHoliday 85 = .ok (.aload_n 0, 1) := by decide +kernel
theorem dX5_noHoliday_86 : decode cX5_noHoliday 86 = .ok (.getfield 19, 3) := by decide +kernel
theorem dX5_noHoliday_89 : decode cX5_noHoliday 89 = .ok (.iload_n 2, 1) := by decide +kernel
theorem dX5_noHoliday_90 : decode cX5_noHoliday 90 = .ok (.iconst 1, 1) := by decide +kernel
theorem dX5_noHoliday_91 : decode cX5_noHoliday 91 = .ok (.iadd, 1) := by decide +kernel
theorem dX5_noHoliday_92 : decode cX5_noHoliday 92 = .ok (.iaload, 1) := by decide +kernel
theorem dX5_noHoliday_93 : decode cX5_noHoliday 93 = .ok (.iastore, 1) := by decide +kernel
theorem dX5_noHoliday_94 : decode cX5_noHoliday 94 = .ok (.aload_n 0, 1) := by decide +kernel
theorem dX5_noHoliday_95 : decode cX5_noHoliday 95 = .ok (.getfield 22, 3) := by decide +kernel
theorem dX5_noHoliday_98 : decode cX5_noHoliday 98 = .ok (.iload_n 2, 1) := by decide +kernel
theorem dX5_noHoliday_99 : decode cX5_noHoliday 99 = .ok (.aload_n 0, 1) := by decide +kernel
theorem dX5_noHoliday_100 : decode cX5_noHoliday 100 = .ok (.getfield 22, 3) := by decide +kernel
theorem dX5_noHoliday_103 : decode cX5_noHoliday 103 = .ok (.iload_n 2, 1) := by decide +kernel
theorem dX5_noHoliday_104 : decode cX5_noHoliday 104 = .ok (.iconst 1, 1) := by decide +kernel
theorem dX5_noHoliday_105 : decode cX5_noHoliday 105 = .ok (.iadd, 1) := by decide +kernel
theorem dX5_noHoliday_106 : decode cX5_noHoliday 106 = .ok (.iaload, 1) := by decide +kernel
theorem dX5_noHoliday_107 : decode cX5_noHoliday 107 = .ok (.iastore, 1) := by decide +kernel
theorem dX5_noHoliday_108 : decode cX5_noHoliday 108 = .ok (.iinc 2 1, 3) := by decide +kernel
theorem dX5_noHoliday_111 : decode cX5_noHoliday 111 = .ok (.goto (-67), 3) := by decide +kernel
theorem dX5_noHoliday_114 : decode cX5_noHoliday 114 = .ok (.aload_n 0, 1) := by decide +kernel
theorem dX5_noHoliday_115 : decode cX5_noHoliday 115 = .ok (.getfield 122, 3) := by decide +kernel
theorem dX5_noHoliday_118 : decode cX5_noHoliday 118 = .ok (.ireturn, 1) := by decide +kernel
theorem dX5_weekend_0 : decode cX5_weekend 0 = .ok (.aload_n 0, 1) := by decide +kernel
theorem dX5_weekend_1 : decode cX5_weekend 1 = .ok (.iload_n 1, 1) := by decide +kernel
theorem dX5_weekend_2 : decode cX5_weekend 2 = .ok (.iconst 0, 1) := by decide +kernel
theorem dX5_weekend_3 : decode cX5_weekend 3 = .ok (.bipush 126, 2) := by decide +kernel
theorem dX5_weekend_5 : decode cX5_weekend 5 = .ok (.invokestatic 38, 3) := by decide +kernel
theorem dX5_weekend_8 : decode cX5_weekend 8 = .ok (.ifCond .eq 7, 3) := by decide +kernel
theorem dX5_weekend_11 : decode cX5_weekend 11 = .ok (.iconst 0, 1) := by decide +kernel
theorem dX5_weekend_12 : decode cX5_weekend 12 = .ok (.goto 4, 3) := by decide +kernel
theorem dX5_weekend_15 : decode cX5_weekend 15 = .ok (.iconst 1, 1) := by decide +kernel
theorem dX5_weekend_16 : decode cX5_weekend 16 = .ok (.putfield 35, 3) := by decide +kernel
theorem dX5_weekend_19 : decode cX5_weekend 19 = .ok (.aload_n 0, 1) := by decide +kernel
theorem dX5_weekend_20 : decode cX5_weekend 20 = .ok (.getfield 35, 3) := by decide +kernel
theorem dX5_weekend_23 : decode cX5_weekend 23 = .ok (.ifCond .le 5, 3) := by decide +kernel
theorem dX5_weekend_26 : decode cX5_weekend 26 = .ok (.iconst 0, 1) := by decide +kernel
theorem dX5_weekend_27 : decode cX5_weekend 27 = .ok (.ireturn, 1) := by decide +kernel
theorem dX5_weekend_28 : decode cX5_weekend 28 = .ok (.aload_n 0, 1) := by decide +kernel
theorem dX5_weekend_29 : decode cX5_weekend 29 = .ok (.getfield 25, 3) := by decide +kernel
theorem dX5_weekend_32 : decode cX5_weekend 32 = .ok (.istore_n 2, 1) := by decide +kernel
theorem dX5_weekend_33 : decode cX5_weekend 33 = .ok (.aload_n 0, 1) := by decide +kernel
theorem dX5_weekend_34 : decode cX5_weekend 34 = .ok (.iload_n 1, 1) := by decide +kernel
theorem dX5_weekend_35 : decode cX5_weekend 35 = .ok (.putfield 25, 3) := by decide +kernel
theorem dX5_weekend_38 : decode cX5_weekend 38 = .ok (.iload_n 2, 1) := by decide +kernel
theorem dX5_weekend_39 : decode cX5_weekend 39 = .ok (.ireturn, 1) := by decide +kernel
theorem dX5_dayOfRule_0 : decode cX5_dayOfRule 0 = .ok (.iload_n 2, 1) := by decide +kernel
theorem dX5_dayOfRule_1 : decode cX5_dayOfRule 1 = .ok (.iconst 1, 1) := by decide +kernel
theorem dX5_dayOfRule_2 : decode cX5_dayOfRule 2 = .ok (.sipush 9999, 3) := by decide +kernel
theorem dX5_dayOfRule_5 : decode cX5_dayOfRule 5 = .ok (.invokestatic 38, 3) := by decide +kernel
theorem dX5_dayOfRule_8 : decode cX5_dayOfRule 8 = .ok (.ifCond .ne 7, 3) := by decide +kernel
theorem dX5_dayOfRule_11 : decode cX5_dayOfRule 11 = .ok (.sipush (-1000), 3) := by decide +kernel
theorem dX5_dayOfRule_14 : decode cX5_dayOfRule 14 = .ok (.ireturn, 1) := by decide +kernel
theorem dX5_dayOfRule_15 : decode cX5_dayOfRule 15 = .ok (.aload_n 0, 1) := by decide +kernel
theorem dX5_dayOfRule_16 : decode cX5_dayOfRule 16 = .ok (.getfield 13, 3) := by decide +kernel
theorem dX5_dayOfRule_19 : decode cX5_dayOfRule 19 = .ok (.iload_n 1, 1) := by decide +kernel
theorem dX5_dayOfRule_20 : decode cX5_dayOfRule 20 = .ok (.iaload, 1) := by decide +kernel
theorem dX5_dayOfRule_21 : decode cX5_dayOfRule 21 = .ok (.iconst 1, 1) := by decide +kernel
theorem dX5_dayOfRule_22 : decode cX5_dayOfRule 22 = .ok (.if_icmp .ne 28, 3) := by decide +kernel
theorem dX5_dayOfRule_25 : decode cX5_dayOfRule 25 = .ok (.iload_n 2, 1) := by decide +kernel
theorem dX5_dayOfRule_26 : decode cX5_dayOfRule 26 = .ok (.sipush 1583, 3) := by decide +kernel
theorem dX5_dayOfRule_29 : decode cX5_dayOfRule 29 = .ok (.if_icmp .ge 9, 3) := by decide +kernel
theorem dX5_dayOfRule_32 : decode cX5_dayOfRule 32 = .ok (.sipush (-1000), 3) := by decide +kernel
theorem dX5_dayOfRule_35 : decode cX5_dayOfRule 35 = .ok (.goto 14, 3) := by decide +kernel
theorem dX5_dayOfRule_38 : decode cX5_dayOfRule 38 = .ok (.iload_n 2, 1) := by decide +kernel
theorem dX5_dayOfRule_39 : decode cX5_dayOfRule 39 = .ok (.invokestatic 96, 3) := by decide +kernel
theorem dX5_dayOfRule_42 : decode cX5_dayOfRule 42 = .ok (.aload_n 0, 1) := by decide +kernel
theorem dX5_dayOfRule_43 : decode cX5_dayOfRule 43 = .ok (.getfield 16, 3) := by decide +kernel
theorem dX5_dayOfRule_46 : decode cX5_dayOfRule 46 = .ok (.iload_n 1, 1) := by decide +kernel
theorem dX5_dayOfRule_47 : decode cX5_dayOfRule 47 = .ok (.iaload, 1) := by decide +kernel
theorem dX5_dayOfRule_48 : decode cX5_dayOfRule 48 = .ok (.iadd, 1) := by decide +kernel
theorem dX5_dayOfRule_49 : decode cX5_dayOfRule 49 = .ok (.ireturn, 1) := by decide +kernel
theorem dX5_dayOfRule_50 : decode cX5_dayOfRule 50 = .ok (.aload_n 0, 1) := by decide +kernel
theorem dX5_dayOfRule_51 : decode cX5_dayOfRule 51 = .ok (.getfield 13, 3) := by decide +kernel
theorem dX5_dayOfRule_54 : decode cX5_dayOfRule 54 = .ok (.iload_n 1, 1) := by decide +kernel
theorem dX5_dayOfRule_55 : decode cX5_dayOfRule 55 = .ok (.iaload, 1) := by decide +kernel
theorem dX5_dayOfRule_56 : decode cX5_dayOfRule 56 = .ok (.iconst 2, 1) := by decide +kernel
theorem dX5_dayOfRule_57 : decode cX5_dayOfRule 57 = .ok (.if_icmp .ne 26, 3) := by decide +kernel
theorem dX5_dayOfRule_60 : decode cX5_dayOfRule 60 = .ok (.iload_n 2, 1) := by decide +kernel
theorem dX5_dayOfRule_61 : decode cX5_dayOfRule 61 = .ok (.aload_n 0, 1) := by decide +kernel
theorem dX5_dayOfRule_62 : decode cX5_dayOfRule 62 = .ok (.getfield 16, 3) := by decide +kernel
theorem dX5_dayOfRule_65 : decode cX5_dayOfRule 65 = .ok (.iload_n 1, 1) := by decide +kernel
theorem dX5_dayOfRule_66 : decode cX5_dayOfRule 66 = .ok (.iaload, 1) := by decide +kernel
theorem dX5_dayOfRule_67 : decode cX5_dayOfRule 67 = .ok (.aload_n 0, 1) := by decide +kernel
theorem dX5_dayOfRule_68 : decode cX5_dayOfRule 68 = .ok (.getfield 19, 3) := by decide +kernel
theorem dX5_dayOfRule_71 : decode cX5_dayOfRule 71 = .ok (.iload_n 1, 1) := by decide +kernel
theorem dX5_dayOfRule_72 : decode cX5_dayOfRule 72 = .ok (.iaload, 1) := by decide +kernel
theorem dX5_dayOfRule_73 : decode cX5_dayOfRule 73 = .ok (.aload_n 0, 1) := by decide +kernel
theorem dX5_dayOfRule_74 : decode cX5_dayOfRule 74 = .ok (.getfield 22, 3) := by decide +kernel
theorem dX5_dayOfRule_77 : decode cX5_dayOfRule 77 = .ok (.iload_n 1, 1) := by decide +kernel
theorem dX5_dayOfRule_78 : decode cX5_dayOfRule 78 = .ok (.iaload, 1) := by decide +kernel
theorem dX5_dayOfRule_79 : decode cX5_dayOfRule 79 = .ok (.invokestatic 99, 3) := by decide +kernel
theorem dX5_dayOfRule_82 : decode cX5_dayOfRule 82 = .ok (.ireturn, 1) := by decide +kernel
theorem dX5_dayOfRule_83 : decode cX5_dayOfRule 83 = .ok (.iload_n 2, 1) := by decide +kernel
theorem dX5_dayOfRule_84 : decode cX5_dayOfRule 84 = .ok (.aload_n 0, 1) := by decide +kernel
theorem dX5_dayOfRule_85 : decode cX5_dayOfRule 85 = .ok (.getfield 16, 3) := by decide +kernel
theorem dX5_dayOfRule_88 : decode cX5_dayOfRule 88 = .ok (.iload_n 1, 1) := by decide +kernel
theorem dX5_dayOfRule_89 : decode cX5_dayOfRule 89 = .ok (.iaload, 1) := by decide +kernel
theorem dX5_dayOfRule_90 : decode cX5_dayOfRule 90 = .ok (.aload_n 0, 1) := by decide +kernel
theorem dX5_dayOfRule_91 : decode cX5_dayOfRule 91 = .ok (.getfield 19, 3) := by decide +kernel
theorem dX5_dayOfRule_94 : decode cX5_dayOfRule 94 = .ok (.iload_n 1, 1) := by decide +kernel
theorem dX5_dayOfRule_95 : decode cX5_dayOfRule 95 = .ok (.iaload, 1) := by decide +kernel
theorem dX5_dayOfRule_96 : decode cX5_dayOfRule 96 = .ok (.invokestatic 83, 3) := by decide +kernel
theorem dX5_dayOfRule_99 : decode cX5_dayOfRule 99 = .ok (.ifCond .ne 7, 3) := by decide +kernel
theorem dX5_dayOfRule_102 : decode cX5_dayOfRule 102 = .ok (.sipush (-1000), 3) := by decide +kernel
theorem dX5_dayOfRule_105 : decode cX5_dayOfRule 105 = .ok (.ireturn, 1) := by decide +kernel
theorem dX5_dayOfRule_106 : decode cX5_dayOfRule 106 = .ok (.iload_n 2, 1) := by decide +kernel
theorem dX5_dayOfRule_107 : decode cX5_dayOfRule 107 = .ok (.aload_n 0, 1) := by decide +kernel
theorem dX5_dayOfRule_108 : decode cX5_dayOfRule 108 = .ok (.getfield 16, 3) := by decide +kernel
theorem dX5_dayOfRule_111 : decode cX5_dayOfRule 111 = .ok (.iload_n 1, 1) := by decide +kernel
theorem dX5_dayOfRule_112 : decode cX5_dayOfRule 112 = .ok (.iaload, 1) := by decide +kernel
theorem dX5_dayOfRule_113 : decode cX5_dayOfRule 113 = .ok (.aload_n 0, 1) := by decide +kernel
theorem dX5_dayOfRule_114 : decode cX5_dayOfRule 114 = .ok (.getfield 19, 3) := by decide +kernel
theorem dX5_dayOfRule_117 : decode cX5_dayOfRule 117 = .ok (.iload_n 1, 1) := by decide +kernel
theorem dX5_dayOfRule_118 : decode cX5_dayOfRule 118 = .ok (.iaload, 1) := by decide +kernel
theorem dX5_dayOfRule_119 : decode cX5_dayOfRule 119 = .ok (.invokestatic 57, 3) := by decide +kernel
theorem dX5_dayOfRule_122 : decode cX5_dayOfRule 122 = .ok (.istore_n 3, 1) := by decide +kernel
theorem dX5_dayOfRule_123 : decode cX5_dayOfRule 123 = .ok (.aload_n 0, 1) := by decide +kernel
theorem dX5_dayOfRule_124 : decode cX5_dayOfRule 124 = .ok (.getfield 13, 3) := by decide +kernel
theorem dX5_dayOfRule_127 : decode cX5_dayOfRule 127 = .ok (.iload_n 1, 1) := by decide +kernel
theorem dX5_dayOfRule_128 : decode cX5_dayOfRule 128 = .ok (.iaload, 1) := by decide +kernel
theorem dX5_dayOfRule_129 : decode cX5_dayOfRule 129 = .ok (.ifCond .ne 5, 3) := by decide +kernel
theorem dX5_dayOfRule_132 : decode cX5_dayOfRule 132 = .ok (.iload_n 3, 1) := by decide +kernel
theorem dX5_dayOfRule_133 : decode cX5_dayOfRule 133 = .ok (.ireturn, 1) := by decide +kernel
theorem dX5_dayOfRule_134 : decode cX5_dayOfRule 134 = .ok (.iload_n 3, 1) := by decide +kernel
theorem dX5_dayOfRule_135 : decode cX5_dayOfRule 135 = .ok (.invokestatic 64, 3) := by decide +kernel
theorem dX5_dayOfRule_138 : decode cX5_dayOfRule 138 = .ok (.bipush 6, 2) := by decide +kernel
theorem dX5_dayOfRule_140 : decode cX5_dayOfRule 140 = .ok (.if_icmp .ne 9, 3) := by decide +kernel
theorem dX5_dayOfRule_143 : decode cX5_dayOfRule 143 = .ok (.iload_n 3, 1) := by decide +kernel
theorem dX5_dayOfRule_144 : decode cX5_dayOfRule 144 = .ok (.iconst 1, 1) := by decide +kernel
theorem dX5_dayOfRule_145 : decode cX5_dayOfRule 145 = .ok (.isub, 1) := by decide +kernel
theorem dX5_dayOfRule_146 : decode cX5_dayOfRule 146 = .ok (.goto 19, 3) := by decide +kernel
theorem dX5_dayOfRule_149 : decode cX5_dayOfRule 149 = .ok (.iload_n 3, 1) := by decide +kernel
theorem dX5_dayOfRule_150 : decode cX5_dayOfRule 150 = .ok (.invokestatic 64, 3) := by decide +kernel
theorem dX5_dayOfRule_153 : decode cX5_dayOfRule 153 = .ok (.bipush 7, 2) := by decide +kernel
theorem dX5_dayOfRule_155 : decode cX5_dayOfRule 155 = .ok (.if_icmp .ne 9, 3) := by decide +kernel
theorem dX5_dayOfRule_158 : decode cX5_dayOfRule 158 = .ok (.iload_n 3, 1) := by decide +kernel
theorem dX5_dayOfRule_159 : decode cX5_dayOfRule 159 = .ok (.iconst 1, 1) := by decide +kernel
theorem dX5_dayOfRule_160 : decode cX5_dayOfRule 160 = .ok (.iadd, 1) := by decide +kernel
theorem dX5_dayOfRule_161 : decode cX5_dayOfRule 161 = .ok (.goto 4, 3) := by decide +kernel
theorem dX5_dayOfRule_164 : decode cX5_dayOfRule 164 = .ok (.iload_n 3, 1) := by decide +kernel
theorem dX5_dayOfRule_165 : decode cX5_dayOfRule 165 = .ok (.ireturn, 1) := by decide +kernel
theorem dX5_ruleOf_0 : decode cX5_ruleOf 0 = .ok (.iload_n 1, 1) := by decide +kernel
theorem dX5_ruleOf_1 : decode cX5_ruleOf 1 = .ok (.invokestatic 54, 3) := by decide +kernel
theorem dX5_ruleOf_4 : decode cX5_ruleOf 4 = .ok (.istore_n 2, 1) := by decide +kernel
theorem dX5_ruleOf_5 : decode cX5_ruleOf 5 = .ok (.iconst 0, 1) := by decide +kernel
theorem dX5_ruleOf_6 : decode cX5_ruleOf 6 = .ok (.istore_n 3, 1) := by decide +kernel
theorem dX5_ruleOf_7 : decode cX5_ruleOf 7 = .ok (.iload_n 3, 1) := by decide +kernel
theorem dX5_ruleOf_8 : decode cX5_ruleOf 8 = .ok (.aload_n 0, 1) := by decide +kernel
theorem dX5_ruleOf_9 : decode cX5_ruleOf 9 = .ok (.getfield 122, 3) := by decide +kernel
theorem dX5_ruleOf_12 : decode cX5_ruleOf 12 = .ok (.if_icmp .ge 57, 3) := by decide +kernel
theorem dX5_ruleOf_15 : decode cX5_ruleOf 15 = .ok (.aload_n 0, 1) := by decide +kernel
theorem dX5_ruleOf_16 : decode cX5_ruleOf 16 = .ok (.iload_n 3, 1) := by decide +kernel
theorem dX5_ruleOf_17 : decode cX5_ruleOf 17 = .ok (.iload_n 2, 1) := by decide +kernel
theorem dX5_ruleOf_18 : decode cX5_ruleOf 18 = .ok (.invokevirtual 125, 3) := by decide +kernel
theorem dX5_ruleOf_21 : decode cX5_ruleOf 21 = .ok (.iload_n 1, 1) := by decide +kernel
theorem dX5_ruleOf_22 : decode cX5_ruleOf 22 = .ok (.if_icmp .eq 39, 3) := by decide +kernel
theorem dX5_ruleOf_25 : decode cX5_ruleOf 25 = .ok (.aload_n 0, 1) := by decide +kernel
theorem dX5_ruleOf_26 : decode cX5_ruleOf 26 = .ok (.getfield 13, 3) := by decide +kernel
theorem dX5_ruleOf_29 : decode cX5_ruleOf 29 = .ok (.iload_n 3, 1) := by decide +kernel
theorem dX5_ruleOf_30 : decode cX5_ruleOf 30 = .ok (.iaload, 1) := by decide +kernel
theorem dX5_ruleOf_31 : decode cX5_ruleOf 31 = .ok (.iconst 2, 1) := by decide +kernel
theorem dX5_ruleOf_32 : decode cX5_ruleOf 32 = .ok (.irem, 1) := by decide +kernel
theorem dX5_ruleOf_33 : decode cX5_ruleOf 33 = .ok (.iconst 1, 1) := by decide +kernel
theorem dX5_ruleOf_34 : decode cX5_ruleOf 34 = .ok (.if_icmp .ne 29, 3) := by decide +kernel
theorem dX5_ruleOf_37 : decode cX5_ruleOf 37 = .ok (.aload_n 0, 1) := by decide +kernel
theorem dX5_ruleOf_38 : decode cX5_ruleOf 38 = .ok (.iload_n 3, 1) := by decide +kernel
theorem dX5_ruleOf_39 : decode cX5_ruleOf 39 = .ok (.iload_n 2, 1) := by decide +kernel
theorem dX5_ruleOf_40 : decode cX5_ruleOf 40 = .ok (.iconst 1, 1) := by decide +kernel
theorem dX5_ruleOf_41 : decode cX5_ruleOf 41 = .ok (.isub, 1) := by decide +kernel
theorem dX5_ruleOf_42 : decode cX5_ruleOf 42 = .ok (.invokevirtual 125, 3) := by decide +kernel
theorem dX5_ruleOf_45 : decode cX5_ruleOf 45 = .ok (.iload_n 1, 1) := by decide +kernel
theorem dX5_ruleOf_46 : decode cX5_ruleOf 46 = .ok (.if_icmp .eq 15, 3) := by decide +kernel
theorem dX5_ruleOf_49 : decode cX5_ruleOf 49 = .ok (.aload_n 0, 1) := by decide +kernel
theorem dX5_ruleOf_50 : decode cX5_ruleOf 50 = .ok (.iload_n 3, 1) := by decide +kernel
theorem dX5_ruleOf_51 : decode cX5_ruleOf 51 = .ok (.iload_n 2, 1) := by decide +kernel
theorem dX5_ruleOf_52 : decode cX5_ruleOf 52 = .ok (.iconst 1, 1) := by decide +kernel
theorem dX5_ruleOf_53 : decode cX5_ruleOf 53 = .ok (.iadd, 1) := by decide +kernel
theorem dX5_ruleOf_54 : decode cX5_ruleOf 54 = .ok (.invokevirtual 125, 3) := by decide +kernel
theorem dX5_ruleOf_57 : decode cX5_ruleOf 57 = .ok (.iload_n 1, 1) := by decide +kernel
theorem dX5_ruleOf_58 : decode cX5_ruleOf 58 = .ok (.if_icmp .ne 5, 3) := by decide +kernel
theorem dX5_ruleOf_61 : decode cX5_ruleOf 61 = .ok (.iload_n 3, 1) := by decide +kernel
theorem dX5_ruleOf_62 : decode cX5_ruleOf 62 = .ok (.ireturn, 1) := by decide +kernel
theorem dX5_ruleOf_63 : decode cX5_ruleOf 63 = .ok (.iinc 3 1, 3) := by decide +kernel
theorem dX5_ruleOf_66 : decode cX5_ruleOf 66 = .ok (.goto (-59), 3) := by decide +kernel
theorem dX5_ruleOf_69 : decode cX5_ruleOf 69 = .ok (.iconst (-1), 1) := by decide +kernel
theorem dX5_ruleOf_70 : decode cX5_ruleOf 70 = .ok (.ireturn, 1) := by decide +kernel
theorem dX5_isHoliday_0 : decode cX5_isHoliday 0 = .ok (.aload_n 0, 1) := by decide +kernel
theorem dX5_isHoliday_1 : decode cX5_isHoliday 1 = .ok (.iload_n 1, 1) := by decide +kernel
theorem dX5_isHoliday_2 : decode cX5_isHoliday 2 = .ok (.invokestatic 80, 3) := by decide +kernel
theorem dX5_isHoliday_5 : decode cX5_isHoliday 5 = .ok (.ifCond .ne 7, 3) := by decide +kernel
theorem dX5_isHoliday_8 : decode cX5_isHoliday 8 = .ok (.iconst 1, 1) := by decide +kernel
theorem dX5_isHoliday_9 : decode cX5_isHoliday 9 = .ok (.goto 17, 3) := by decide +kernel
theorem dX5_isHoliday_12 : decode cX5_isHoliday 12 = .ok (.aload_n 0, 1) := by decide +kernel
theorem dX5_isHoliday_13 : decode cX5_isHoliday 13 = .ok (.getfield 7, 3) := by decide +kernel
theorem dX5_isHoliday_16 : decode cX5_isHoliday 16 = .ok (.iload_n 1, 1) := by decide +kernel
theorem dX5_isHoliday_17 : decode cX5_isHoliday 17 = .ok (.iaload, 1) := by decide +kernel
theorem dX5_isHoliday_18 : decode cX5_isHoliday 18 = .ok (.ifCond .ge 7, 3) := by decide +kernel
theorem dX5_isHoliday_21 : decode cX5_isHoliday 21 = .ok (.iconst 2, 1) := by decide +kernel
theorem dX5_isHoliday_22 : decode cX5_isHoliday 22 = .ok (.goto 4, 3) := by decide +kernel
theorem dX5_isHoliday_25 : decode cX5_isHoliday 25 = .ok (.iconst 0, 1) := by decide +kernel
theorem dX5_isHoliday_26 : decode cX5_isHoliday 26 = .ok (.putfield 35, 3) := by decide +kernel
theorem dX5_isHoliday_29 : decode cX5_isHoliday 29 = .ok (.aload_n 0, 1) := by decide +kernel
theorem dX5_isHoliday_30 : decode cX5_isHoliday 30 = .ok (.getfield 35, 3) := by decide +kernel
theorem dX5_isHoliday_33 : decode cX5_isHoliday 33 = .ok (.ifCond .le 7, 3) := by decide +kernel
theorem dX5_isHoliday_36 : decode cX5_isHoliday 36 = .ok (.iconst 0, 1) := by decide +kernel
theorem dX5_isHoliday_37 : decode cX5_isHoliday 37 = .ok (.goto 13, 3) := by decide +kernel
theorem dX5_isHoliday_40 : decode cX5_isHoliday 40 = .ok (.aload_n 0, 1) := by decide +kernel
theorem dX5_isHoliday_41 : decode cX5_isHoliday 41 = .ok (.aload_n 0, 1) := by decide +kernel
theorem dX5_isHoliday_42 : decode cX5_isHoliday 42 = .ok (.getfield 7, 3) := by decide +kernel
theorem dX5_isHoliday_45 : decode cX5_isHoliday 45 = .ok (.iload_n 1, 1) := by decide +kernel
theorem dX5_isHoliday_46 : decode cX5_isHoliday 46 = .ok (.iaload, 1) := by decide +kernel
theorem dX5_isHoliday_47 : decode cX5_isHoliday 47 = .ok (.invokevirtual 128, 3) := by decide +kernel
theorem dX5_isHoliday_50 : decode cX5_isHoliday 50 = .ok (.ireturn, 1) := by decide +kernel
theorem dX5_works_0 : decode cX5_works 0 = .ok (.aload_n 0, 1) := by decide +kernel
theorem dX5_works_1 : decode cX5_works 1 = .ok (.getfield 25, 3) := by decide +kernel
theorem dX5_works_4 : decode cX5_works 4 = .ok (.iload_n 1, 1) := by decide +kernel
theorem dX5_works_5 : decode cX5_works 5 = .ok (.invokestatic 64, 3) := by decide +kernel
theorem dX5_works_8 : decode cX5_works 8 = .ok (.iconst 1, 1) := by decide +kernel
theorem dX5_works_9 : decode cX5_works 9 = .ok (.isub, 1) := by decide +kernel
theorem dX5_works_10 : decode cX5_works 10 = .ok (.ishr, 1) := by decide +kernel
theorem dX5_works_11 : decode cX5_works 11 = .ok (.iconst 1, 1) := by decide +kernel
theorem dX5_works_12 : decode cX5_works 12 = .ok (.iand, 1) := by decide +kernel
theorem dX5_works_13 : decode cX5_works 13 = .ok (.ifCond .ne 16, 3) := by decide +kernel
theorem dX5_works_16 : decode cX5_works 16 = .ok (.aload_n 0, 1) := by decide +kernel
theorem dX5_works_17 : decode cX5_works 17 = .ok (.iload_n 1, 1) := by decide +kernel
theorem dX5_works_18 : decode cX5_works 18 = .ok (.invokevirtual 128, 3) := by decide +kernel
theorem dX5_works_21 : decode cX5_works 21 = .ok (.iconst (-1), 1) := by decide +kernel
theorem dX5_works_22 : decode cX5_works 22 = .ok (.if_icmp .ne 7, 3) := by decide +kernel
theorem dX5_works_25 : decode cX5_works 25 = .ok (.iconst 1, 1) := by decide +kernel
theorem dX5_works_26 : decode cX5_works 26 = .ok (.goto 4, 3) := by decide +kernel
theorem dX5_works_29 : decode cX5_works 29 = .ok (.iconst 0, 1) := by decide +kernel
theorem dX5_works_30 : decode cX5_works 30 = .ok (.ireturn, 1) := by decide +kernel
theorem dX5_work_0 : decode cX5_work 0 = .ok (.aload_n 0, 1) := by decide +kernel
theorem dX5_work_1 : decode cX5_work 1 = .ok (.iload_n 1, 1) := by decide +kernel
theorem dX5_work_2 : decode cX5_work 2 = .ok (.invokestatic 80, 3) := by decide +kernel
theorem dX5_work_5 : decode cX5_work 5 = .ok (.ifCond .eq 10, 3) := by decide +kernel
theorem dX5_work_8 : decode cX5_work 8 = .ok (.iload_n 2, 1) := by decide +kernel
theorem dX5_work_9 : decode cX5_work 9 = .ok (.invokestatic 80, 3) := by decide +kernel
theorem dX5_work_12 : decode cX5_work 12 = .ok (.ifCond .ne 7, 3) := by decide +kernel
theorem dX5_work_15 : decode cX5_work 15 = .ok (.iconst 1, 1) := by decide +kernel
theorem dX5_work_16 : decode cX5_work 16 = .ok (.goto 26, 3) := by decide +kernel
theorem dX5_work_19 : decode cX5_work 19 = .ok (.aload_n 0, 1) := by decide +kernel
theorem dX5_work_20 : decode cX5_work 20 = .ok (.getfield 7, 3) := by decide +kernel
theorem dX5_work_23 : decode cX5_work 23 = .ok (.iload_n 1, 1) := by decide +kernel
theorem dX5_work_24 : decode cX5_work 24 = .ok (.iaload, 1) := by decide +kernel
theorem dX5_work_25 : decode cX5_work 25 = .ok (.ifCond .lt 12, 3) := by decide +kernel
theorem dX5_work_28 : decode cX5_work 28 = .ok (.aload_n 0, 1) := by decide +kernel
theorem dX5_work_29 : decode cX5_work 29 = .ok (.getfield 7, 3) := by decide +kernel
theorem dX5_work_32 : decode cX5_work 32 = .ok (.iload_n 2, 1) := by decide +kernel
theorem dX5_work_33 : decode cX5_work 33 = .ok (.iaload, 1) := by decide +kernel
theorem dX5_work_34 : decode cX5_work 34 = .ok (.ifCond .ge 7, 3) := by decide +kernel
theorem dX5_work_37 : decode cX5_work 37 = .ok (.iconst 2, 1) := by decide +kernel
theorem dX5_work_38 : decode cX5_work 38 = .ok (.goto 4, 3) := by decide +kernel
theorem dX5_work_41 : decode cX5_work 41 = .ok (.iconst 0, 1) := by decide +kernel
theorem dX5_work_42 : decode cX5_work 42 = .ok (.putfield 35, 3) := by decide +kernel
theorem dX5_work_45 : decode cX5_work 45 = .ok (.aload_n 0, 1) := by decide +kernel
theorem dX5_work_46 : decode cX5_work 46 = .ok (.getfield 35, 3) := by decide +kernel
theorem dX5_work_49 : decode cX5_work 49 = .ok (.ifCond .le 5, 3) := by decide +kernel
theorem dX5_work_52 : decode cX5_work 52 = .ok (.iconst 0, 1) := by decide +kernel
theorem dX5_work_53 : decode cX5_work 53 = .ok (.ireturn, 1) := by decide +kernel
theorem dX5_work_54 : decode cX5_work 54 = .ok (.aload_n 0, 1) := by decide +kernel
theorem dX5_work_55 : decode cX5_work 55 = .ok (.getfield 7, 3) := by decide +kernel
theorem dX5_work_58 : decode cX5_work 58 = .ok (.iload_n 1, 1) := by decide +kernel
theorem dX5_work_59 : decode cX5_work 59 = .ok (.iaload, 1) := by decide +kernel
theorem dX5_work_60 : decode cX5_work 60 = .ok (.aload_n 0, 1) := by decide +kernel
theorem dX5_work_61 : decode cX5_work 61 = .ok (.getfield 7, 3) := by decide +kernel
theorem dX5_work_64 : decode cX5_work 64 = .ok (.iload_n 2, 1) := by decide +kernel
theorem dX5_work_65 : decode cX5_work 65 = .ok (.iaload, 1) := by decide +kernel
theorem dX5_work_66 : decode cX5_work 66 = .ok (.if_icmp .ge 12, 3) := by decide +kernel
theorem dX5_work_69 : decode cX5_work 69 = .ok (.aload_n 0, 1) := by decide +kernel
theorem dX5_work_70 : decode cX5_work 70 = .ok (.getfield 7, 3) := by decide +kernel
theorem dX5_work_73 : decode cX5_work 73 = .ok (.iload_n 1, 1) := by decide +kernel
theorem dX5_work_74 : decode cX5_work 74 = .ok (.iaload, 1) := by decide +kernel
theorem dX5_work_75 : decode cX5_work 75 = .ok (.goto 9, 3) := by decide +kernel
theorem dX5_work_78 : decode cX5_work 78 = .ok (.aload_n 0, 1) := by decide +kernel
theorem dX5_work_79 : decode cX5_work 79 = .ok (.getfield 7, 3) := by decide +kernel
theorem dX5_work_82 : decode cX5_work 82 = .ok (.iload_n 2, 1) := by decide +kernel
theorem dX5_work_83 : decode cX5_work 83 = .ok (.iaload, 1) := by decide +kernel
theorem dX5_work_84 : decode cX5_work 84 = .ok (.istore_n 3, 1) := by decide +kernel
theorem dX5_work_85 : decode cX5_work 85 = .ok (.aload_n 0, 1) := by decide +kernel
theorem dX5_work_86 : decode cX5_work 86 = .ok (.getfield 7, 3) := by decide +kernel
theorem dX5_work_89 : decode cX5_work 89 = .ok (.iload_n 1, 1) := by decide +kernel
theorem dX5_work_90 : decode cX5_work 90 = .ok (.iaload, 1) := by decide +kernel
theorem dX5_work_91 : decode cX5_work 91 = .ok (.aload_n 0, 1) := by decide +kernel
theorem dX5_work_92 : decode cX5_work 92 = .ok (.getfield 7, 3) := by decide +kernel
theorem dX5_work_95 : decode cX5_work 95 = .ok (.iload_n 2, 1) := by decide +kernel
theorem dX5_work_96 : decode cX5_work 96 = .ok (.iaload, 1) := by decide +kernel
theorem dX5_work_97 : decode cX5_work 97 = .ok (.if_icmp .ge 12, 3) := by decide +kernel
theorem dX5_work_100 : decode cX5_work 100 = .ok (.aload_n 0, 1) := by decide +kernel
theorem dX5_work_101 : decode cX5_work 101 = .ok (.getfield 7, 3) := by decide +kernel
theorem dX5_work_104 : decode cX5_work 104 = .ok (.iload_n 2, 1) := by decide +kernel
theorem dX5_work_105 : decode cX5_work 105 = .ok (.iaload, 1) := by decide +kernel
theorem dX5_work_106 : decode cX5_work 106 = .ok (.goto 9, 3) := by decide +kernel
theorem dX5_work_109 : decode cX5_work 109 = .ok (.aload_n 0, 1) := by decide +kernel
theorem dX5_work_110 : decode cX5_work 110 = .ok (.getfield 7, 3) := by decide +kernel
theorem dX5_work_113 : decode cX5_work 113 = .ok (.iload_n 1, 1) := by decide +kernel
theorem dX5_work_114 : decode cX5_work 114 = .ok (.iaload, 1) := by decide +kernel
theorem dX5_work_115 : decode cX5_work 115 = .ok (.istore 4, 2) := by decide +kernel
theorem dX5_work_117 : decode cX5_work 117 = .ok (.aload_n 0, 1) := by decide +kernel
theorem dX5_work_118 : decode cX5_work 118 = .ok (.iload 4, 2) := by decide +kernel
theorem dX5_work_120 : decode cX5_work 120 = .ok (.iload_n 3, 1) := by decide +kernel
theorem dX5_work_121 : decode cX5_work 121 = .ok (.isub, 1) := by decide +kernel
theorem dX5_work_122 : decode cX5_work 122 = .ok (.sipush 4000, 3) := by decide +kernel
theorem dX5_work_125 : decode cX5_work 125 = .ok (.if_icmp .le 7, 3) := by decide +kernel
theorem dX5_work_128 : decode cX5_work 128 = .ok (.iconst 3, 1) := by decide +kernel
theorem dX5_work_129 : decode cX5_work 129 = .ok (.goto 4, 3) := by decide +kernel
theorem dX5_work_132 : decode cX5_work 132 = .ok (.iconst 0, 1) := by decide +kernel
theorem dX5_work_133 : decode cX5_work 133 = .ok (.putfield 35, 3) := by decide +kernel
theorem dX5_work_136 : decode cX5_work 136 = .ok (.iconst 0, 1) := by decide +kernel
theorem dX5_work_137 : decode cX5_work 137 = .ok (.istore 5, 2) := by decide +kernel
theorem dX5_work_139 : decode cX5_work 139 = .ok (.iload_n 3, 1) := by decide +kernel
theorem dX5_work_140 : decode cX5_work 140 = .ok (.istore 6, 2) := by decide +kernel
theorem dX5_work_142 : decode cX5_work 142 = .ok (.iload 6, 2) := by decide +kernel
theorem dX5_work_144 : decode cX5_work 144 = .ok (.iload 4, 2) := by decide +kernel
theorem dX5_work_146 : decode cX5_work 146 = .ok (.if_icmp .ge 35, 3) := by decide +kernel
theorem dX5_work_149 : decode cX5_work 149 = .ok (.aload_n 0, 1) := by decide +kernel
theorem dX5_work_150 : decode cX5_work 150 = .ok (.getfield 35, 3) := by decide +kernel
theorem dX5_work_153 : decode cX5_work 153 = .ok (.ifCond .ne 28, 3) := by decide +kernel
theorem dX5_work_156 : decode cX5_work 156 = .ok (.iload 5, 2) := by decide +kernel
theorem dX5_work_158 : decode cX5_work 158 = .ok (.aload_n 0, 1) := by decide +kernel
theorem dX5_work_159 : decode cX5_work 159 = .ok (.iload 6, 2) := by decide +kernel
theorem dX5_work_161 : decode cX5_work 161 = .ok (.invokevirtual 131, 3) := by decide +kernel
theorem dX5_work_164 : decode cX5_work 164 = .ok (.ifCond .eq 7, 3) := by decide +kernel
theorem dX5_work_167 : decode cX5_work 167 = .ok (.iconst 1, 1) := by decide +kernel
theorem dX5_work_168 : decode cX5_work 168 = .ok (.goto 4, 3) := by decide +kernel
theorem dX5_work_171 : decode cX5_work 171 = .ok (.iconst 0, 1) := by decide +kernel
theorem dX5_work_172 : decode cX5_work 172 = .ok (.iadd, 1) := by decide +kernel
theorem dX5_work_173 : decode cX5_work 173 = .ok (.istore 5, 2) := by decide +kernel
theorem dX5_work_175 : decode cX5_work 175 = .ok (.iinc 6 1, 3) := by decide +kernel
theorem dX5_work_178 : decode cX5_work 178 = .ok (.goto (-36), 3) := by decide +kernel
theorem dX5_work_181 : decode cX5_work 181 = .ok (.aload_n 0, 1) := by decide +kernel
theorem dX5_work_182 : decode cX5_work 182 = .ok (.getfield 7, 3) := by decide +kernel
theorem dX5_work_185 : decode cX5_work 185 = .ok (.iload_n 1, 1) := by decide +kernel
theorem dX5_work_186 : decode cX5_work 186 = .ok (.iaload, 1) := by decide +kernel
theorem dX5_work_187 : decode cX5_work 187 = .ok (.aload_n 0, 1) := by decide +kernel
theorem dX5_work_188 : decode cX5_work 188 = .ok (.getfield 7, 3) := by decide +kernel
theorem dX5_work_191 : decode cX5_work 191 = .ok (.iload_n 2, 1) := by decide +kernel
theorem dX5_work_192 : decode cX5_work 192 = .ok (.iaload, 1) := by decide +kernel
theorem dX5_work_193 : decode cX5_work 193 = .ok (.if_icmp .ge 8, 3) := by decide +kernel
theorem dX5_work_196 : decode cX5_work 196 = .ok (.iload 5, 2) := by decide +kernel
theorem dX5_work_198 : decode cX5_work 198 = .ok (.goto 6, 3) := by decide +kernel
theorem dX5_work_201 : decode cX5_work 201 = .ok (.iload 5, 2) := by decide +kernel
theorem dX5_work_203 : decode cX5_work 203 = .ok (.ineg, 1) := by decide +kernel
theorem dX5_work_204 : decode cX5_work 204 = .ok (.ireturn, 1) := by decide +kernel
theorem dX5_moveWork_0 : decode cX5_moveWork 0 = .ok (.aload_n 0, 1) := by decide +kernel
theorem dX5_moveWork_1 : decode cX5_moveWork 1 = .ok (.iload_n 1, 1) := by decide +kernel
theorem dX5_moveWork_2 : decode cX5_moveWork 2 = .ok (.invokestatic 80, 3) := by decide +kernel
theorem dX5_moveWork_5 : decode cX5_moveWork 5 = .ok (.ifCond .ne 7, 3) := by decide +kernel
theorem dX5_moveWork_8 : decode cX5_moveWork 8 = .ok (.iconst 1, 1) := by decide +kernel
theorem dX5_moveWork_9 : decode cX5_moveWork 9 = .ok (.goto 34, 3) := by decide +kernel
theorem dX5_moveWork_12 : decode cX5_moveWork 12 = .ok (.aload_n 0, 1) := by decide +kernel
theorem dX5_moveWork_13 : decode cX5_moveWork 13 = .ok (.getfield 7, 3) := by decide +kernel
theorem dX5_moveWork_16 : decode cX5_moveWork 16 = .ok (.iload_n 1, 1) := by decide +kernel
theorem dX5_moveWork_17 : decode cX5_moveWork 17 = .ok (.iaload, 1) := by decide +kernel
theorem dX5_moveWork_18 : decode cX5_moveWork 18 = .ok (.ifCond .ge 7, 3) := by decide +kernel
theorem dX5_moveWork_21 : decode cX5_moveWork 21 = .ok (.iconst 2, 1) := by decide +kernel
theorem dX5_moveWork_22 : decode cX5_moveWork 22 = .ok (.goto 21, 3) := by decide +kernel
theorem dX5_moveWork_25 : decode cX5_moveWork 25 = .ok (.iload_n 2, 1) := by decide +kernel
theorem dX5_moveWork_26 : decode cX5_moveWork 26 = .ok (.sipush (-1000), 3) := by decide +kernel
theorem dX5_moveWork_29 : decode cX5_moveWork 29 = .ok (.sipush 1000, 3) := by decide +kernel
theorem dX5_moveWork_32 : decode cX5_moveWork 32 = .ok (.invokestatic 38, 3) := by decide +kernel
theorem dX5_moveWork_35 : decode cX5_moveWork 35 = .ok (.ifCond .ne 7, 3) := by decide +kernel
theorem dX5_moveWork_38 : decode cX5_moveWork 38 = .ok (.iconst 3, 1) := by decide +kernel
theorem dX5_moveWork_39 : decode cX5_moveWork 39 = .ok (.goto 4, 3) := by decide +kernel
