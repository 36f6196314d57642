set_option maxRecDepth 20000 in
theorem ggX0_yearLength_X0_isLeap : GoodIn wsX0_yearLength wsX0_isLeap := goodIn_r _ [4] (by decide +kernel) (by decide +kernel)
set_option maxRecDepth 20000 in
theorem gX0_yearLength_X0_isLeap : GoodIn wsX0_yearLength (va_wsS RX0 13 yX0_isLeap wsX0_isLeap) := goodIn_app (goodIn_of _ (by decide +kernel)) ggX0_yearLength_X0_isLeap
set_option maxRecDepth 20000 in
theorem ggX0_monthLength_X0_isLeap : GoodIn wsX0_monthLength wsX0_isLeap := goodIn_r _ [4] (by decide +kernel) (by decide +kernel)
set_option maxRecDepth 20000 in
theorem gX0_monthLength_X0_isLeap : GoodIn wsX0_monthLength (va_wsS RX0 13 yX0_isLeap wsX0_isLeap) := goodIn_app (goodIn_of _ (by decide +kernel)) ggX0_monthLength_X0_isLeap
set_option maxRecDepth 20000 in
theorem ggX0_monthStart_X0_isLeap : GoodIn wsX0_monthStart wsX0_isLeap := goodIn_r _ [4] (by decide +kernel) (by decide +kernel)
set_option maxRecDepth 20000 in
theorem gX0_monthStart_X0_isLeap : GoodIn wsX0_monthStart (va_wsS RX0 13 yX0_isLeap wsX0_isLeap) := goodIn_app (goodIn_of _ (by decide +kernel)) ggX0_monthStart_X0_isLeap
set_option maxRecDepth 20000 in
theorem ggX0_monthStart_X0_yearStart : GoodIn wsX0_monthStart wsX0_yearStart := goodIn_r _ [7] (by decide +kernel) (by decide +kernel)
set_option maxRecDepth 20000 in
theorem gX0_monthStart_X0_yearStart : GoodIn wsX0_monthStart (va_wsS RX0 17 yX0_yearStart wsX0_yearStart) := goodIn_app (goodIn_of _ (by decide +kernel)) ggX0_monthStart_X0_yearStart
set_option maxRecDepth 20000 in
theorem ggX0_firstMonday_X0_yearStart : GoodIn wsX0_firstMonday wsX0_yearStart := goodIn_r _ [4] (by decide +kernel) (by decide +kernel)
set_option maxRecDepth 20000 in
theorem gX0_firstMonday_X0_yearStart : GoodIn wsX0_firstMonday (va_wsS RX0 17 yX0_yearStart wsX0_yearStart) := goodIn_app (goodIn_of _ (by decide +kernel)) ggX0_firstMonday_X0_yearStart
set_option maxRecDepth 20000 in
theorem ggX0_weeksIn_X0_firstMonday : GoodIn wsX0_weeksIn wsX0_firstMonday := goodIn_r _ [4, 5, 6, 3, 7] (by decide +kernel) (by decide +kernel)
set_option maxRecDepth 20000 in
theorem gX0_weeksIn_X0_firstMonday : GoodIn wsX0_weeksIn (va_wsS RX0 21 yX0_firstMonday wsX0_firstMonday) := goodIn_app (goodIn_of _ (by decide +kernel)) ggX0_weeksIn_X0_firstMonday
set_option maxRecDepth 20000 in
theorem ggX0_civilNumber_X0_isYear : GoodIn wsX0_civilNumber wsX0_isYear := goodIn_r _ [4] (by decide +kernel) (by decide +kernel)
set_option maxRecDepth 20000 in
theorem gX0_civilNumber_X0_isYear : GoodIn wsX0_civilNumber (va_wsS RX0 24 yX0_isYear wsX0_isYear) := goodIn_app (goodIn_of _ (by decide +kernel)) ggX0_civilNumber_X0_isYear
set_option maxRecDepth 20000 in
theorem ggX0_civilNumber_X0_isMonth : GoodIn wsX0_civilNumber wsX0_isMonth := goodIn_r _ [7] (by decide +kernel) (by decide +kernel)
set_option maxRecDepth 20000 in
theorem gX0_civilNumber_X0_isMonth : GoodIn wsX0_civilNumber (va_wsS RX0 27 yX0_isMonth wsX0_isMonth) := goodIn_app (goodIn_of _ (by decide +kernel)) ggX0_civilNumber_X0_isMonth
set_option maxRecDepth 20000 in
theorem ggX0_civilNumber_X0_monthLength : GoodIn wsX0_civilNumber wsX0_monthLength := goodIn_r _ [10, 11, 12, 3, 13] (by decide +kernel) (by decide +kernel)
set_option maxRecDepth 20000 in
theorem gX0_civilNumber_X0_monthLength : GoodIn wsX0_civilNumber (va_wsS RX0 30 yX0_monthLength wsX0_monthLength) := goodIn_app (goodIn_of _ (by decide +kernel)) ggX0_civilNumber_X0_monthLength
set_option maxRecDepth 20000 in
theorem ggX0_civilNumber_X0_monthStart : GoodIn wsX0_civilNumber wsX0_monthStart := goodIn_r _ [16, 11, 12, 3, 13, 17, 18, 19] (by decide +kernel) (by decide +kernel)
set_option maxRecDepth 20000 in
theorem gX0_civilNumber_X0_monthStart : GoodIn wsX0_civilNumber (va_wsS RX0 34 yX0_monthStart wsX0_monthStart) := goodIn_app (goodIn_of _ (by decide +kernel)) ggX0_civilNumber_X0_monthStart
set_option maxRecDepth 20000 in
theorem ggX0_yearDayNumber_X0_isYear : GoodIn wsX0_yearDayNumber wsX0_isYear := goodIn_r _ [4] (by decide +kernel) (by decide +kernel)
set_option maxRecDepth 20000 in
theorem gX0_yearDayNumber_X0_isYear : GoodIn wsX0_yearDayNumber (va_wsS RX0 24 yX0_isYear wsX0_isYear) := goodIn_app (goodIn_of _ (by decide +kernel)) ggX0_yearDayNumber_X0_isYear
set_option maxRecDepth 20000 in
theorem ggX0_yearDayNumber_X0_yearLength : GoodIn wsX0_yearDayNumber wsX0_yearLength := goodIn_r _ [7, 8, 9, 3, 10] (by decide +kernel) (by decide +kernel)
set_option maxRecDepth 20000 in
theorem gX0_yearDayNumber_X0_yearLength : GoodIn wsX0_yearDayNumber (va_wsS RX0 37 yX0_yearLength wsX0_yearLength) := goodIn_app (goodIn_of _ (by decide +kernel)) ggX0_yearDayNumber_X0_yearLength
set_option maxRecDepth 20000 in
theorem ggX0_yearDayNumber_X0_yearStart : GoodIn wsX0_yearDayNumber wsX0_yearStart := goodIn_r _ [13] (by decide +kernel) (by decide +kernel)
set_option maxRecDepth 20000 in
theorem gX0_yearDayNumber_X0_yearStart : GoodIn wsX0_yearDayNumber (va_wsS RX0 17 yX0_yearStart wsX0_yearStart) := goodIn_app (goodIn_of _ (by decide +kernel)) ggX0_yearDayNumber_X0_yearStart
set_option maxRecDepth 20000 in
theorem ggX0_weekNumber_X0_isYear : GoodIn wsX0_weekNumber wsX0_isYear := goodIn_r _ [4] (by decide +kernel) (by decide +kernel)
set_option maxRecDepth 20000 in
theorem gX0_weekNumber_X0_isYear : GoodIn wsX0_weekNumber (va_wsS RX0 24 yX0_isYear wsX0_isYear) := goodIn_app (goodIn_of _ (by decide +kernel)) ggX0_weekNumber_X0_isYear
set_option maxRecDepth 20000 in
theorem ggX0_weekNumber_X0_isWeekday : GoodIn wsX0_weekNumber wsX0_isWeekday := goodIn_r _ [7] (by decide +kernel) (by decide +kernel)
set_option maxRecDepth 20000 in
theorem gX0_weekNumber_X0_isWeekday : GoodIn wsX0_weekNumber (va_wsS RX0 40 yX0_isWeekday wsX0_isWeekday) := goodIn_app (goodIn_of _ (by decide +kernel)) ggX0_weekNumber_X0_isWeekday
set_option maxRecDepth 20000 in
theorem ggX0_weekNumber_X0_weeksIn : GoodIn wsX0_weekNumber wsX0_weeksIn := goodIn_r _ [10, 11, 12, 3, 13, 14, 15, 16] (by decide +kernel) (by decide +kernel)
set_option maxRecDepth 20000 in
theorem gX0_weekNumber_X0_weeksIn : GoodIn wsX0_weekNumber (va_wsS RX0 43 yX0_weeksIn wsX0_weeksIn) := goodIn_app (goodIn_of _ (by decide +kernel)) ggX0_weekNumber_X0_weeksIn
set_option maxRecDepth 20000 in
theorem ggX0_weekNumber_X0_firstMonday : GoodIn wsX0_weekNumber wsX0_firstMonday := goodIn_r _ [13, 14, 15, 3, 16] (by decide +kernel) (by decide +kernel)
set_option maxRecDepth 20000 in
theorem gX0_weekNumber_X0_firstMonday : GoodIn wsX0_weekNumber (va_wsS RX0 21 yX0_firstMonday wsX0_firstMonday) := goodIn_app (goodIn_of _ (by decide +kernel)) ggX0_weekNumber_X0_firstMonday
set_option maxRecDepth 20000 in
theorem ggX0_weekNumber_X0_isNumber : GoodIn wsX0_weekNumber wsX0_isNumber := goodIn_r _ [19, 20] (by decide +kernel) (by decide +kernel)
set_option maxRecDepth 20000 in
theorem gX0_weekNumber_X0_isNumber : GoodIn wsX0_weekNumber (va_wsS RX0 46 yX0_isNumber wsX0_isNumber) := goodIn_app (goodIn_of _ (by decide +kernel)) ggX0_weekNumber_X0_isNumber
set_option maxRecDepth 20000 in
theorem ggX0_easterNumber_X0_monthStart : GoodIn wsX0_easterNumber wsX0_monthStart := goodIn_r _ [4, 5, 6, 3, 7, 8, 9, 10] (by decide +kernel) (by decide +kernel)
set_option maxRecDepth 20000 in
theorem gX0_easterNumber_X0_monthStart : GoodIn wsX0_easterNumber (va_wsS RX0 34 yX0_monthStart wsX0_monthStart) := goodIn_app (goodIn_of _ (by decide +kernel)) ggX0_easterNumber_X0_monthStart
set_option maxRecDepth 20000 in
theorem ggX0_easterNumber_X0_onOrBehind : GoodIn wsX0_easterNumber wsX0_onOrBehind := goodIn_r _ [13, 14, 15, 3, 16] (by decide +kernel) (by decide +kernel)
set_option maxRecDepth 20000 in
theorem gX0_easterNumber_X0_onOrBehind : GoodIn wsX0_easterNumber (va_wsS RX0 50 yX0_onOrBehind wsX0_onOrBehind) := goodIn_app (goodIn_of _ (by decide +kernel)) ggX0_easterNumber_X0_onOrBehind
set_option maxRecDepth 20000 in
theorem ggX0_nthNumber_X0_isYear : GoodIn wsX0_nthNumber wsX0_isYear := goodIn_r _ [4] (by decide +kernel) (by decide +kernel)
set_option maxRecDepth 20000 in
theorem gX0_nthNumber_X0_isYear : GoodIn wsX0_nthNumber (va_wsS RX0 24 yX0_isYear wsX0_isYear) := goodIn_app (goodIn_of _ (by decide +kernel)) ggX0_nthNumber_X0_isYear
set_option maxRecDepth 20000 in
theorem ggX0_nthNumber_X0_isMonth : GoodIn wsX0_nthNumber wsX0_isMonth := goodIn_r _ [7] (by decide +kernel) (by decide +kernel)
set_option maxRecDepth 20000 in
theorem gX0_nthNumber_X0_isMonth : GoodIn wsX0_nthNumber (va_wsS RX0 27 yX0_isMonth wsX0_isMonth) := goodIn_app (goodIn_of _ (by decide +kernel)) ggX0_nthNumber_X0_isMonth
set_option maxRecDepth 20000 in
theorem ggX0_nthNumber_X0_isWeekday : GoodIn wsX0_nthNumber wsX0_isWeekday := goodIn_r _ [10] (by decide +kernel) (by decide +kernel)
set_option maxRecDepth 20000 in
theorem gX0_nthNumber_X0_isWeekday : GoodIn wsX0_nthNumber (va_wsS RX0 40 yX0_isWeekday wsX0_isWeekday) := goodIn_app (goodIn_of _ (by decide +kernel)) ggX0_nthNumber_X0_isWeekday
set_option maxRecDepth 20000 in
theorem ggX0_nthNumber_X0_monthStart : GoodIn wsX0_nthNumber wsX0_monthStart := goodIn_r _ [13, 14, 15, 3, 16, 17, 18, 19] (by decide +kernel) (by decide +kernel)
set_option maxRecDepth 20000 in
theorem gX0_nthNumber_X0_monthStart : GoodIn wsX0_nthNumber (va_wsS RX0 34 yX0_monthStart wsX0_monthStart) := goodIn_app (goodIn_of _ (by decide +kernel)) ggX0_nthNumber_X0_monthStart
set_option maxRecDepth 20000 in
theorem ggX0_nthNumber_X0_monthLength : GoodIn wsX0_nthNumber wsX0_monthLength := goodIn_r _ [22, 14, 15, 3, 16] (by decide +kernel) (by decide +kernel)
set_option maxRecDepth 20000 in
theorem gX0_nthNumber_X0_monthLength : GoodIn wsX0_nthNumber (va_wsS RX0 30 yX0_monthLength wsX0_monthLength) := goodIn_app (goodIn_of _ (by decide +kernel)) ggX0_nthNumber_X0_monthLength
set_option maxRecDepth 20000 in
theorem ggX0_nthNumber_X0_onOrBehind : GoodIn wsX0_nthNumber wsX0_onOrBehind := goodIn_r _ [25, 26, 27, 3, 28] (by decide +kernel) (by decide +kernel)
set_option maxRecDepth 20000 in
theorem gX0_nthNumber_X0_onOrBehind : GoodIn wsX0_nthNumber (va_wsS RX0 50 yX0_onOrBehind wsX0_onOrBehind) := goodIn_app (goodIn_of _ (by decide +kernel)) ggX0_nthNumber_X0_onOrBehind
set_option maxRecDepth 20000 in
theorem ggX0_onOrBehind_X0_weekdayOf : GoodIn wsX0_onOrBehind wsX0_weekdayOf := goodIn_r _ [4] (by decide +kernel) (by decide +kernel)
set_option maxRecDepth 20000 in
theorem gX0_onOrBehind_X0_weekdayOf : GoodIn wsX0_onOrBehind (va_wsS RX0 53 yX0_weekdayOf wsX0_weekdayOf) := goodIn_app (goodIn_of _ (by decide +kernel)) ggX0_onOrBehind_X0_weekdayOf
set_option maxRecDepth 20000 in
theorem ggX0_monthOf_X0_yearOf : GoodIn wsX0_monthOf wsX0_yearOf := goodIn_r _ [4, 5, 6, 7, 8, 9, 10] (by decide +kernel) (by decide +kernel)
set_option maxRecDepth 20000 in
theorem gX0_monthOf_X0_yearOf : GoodIn wsX0_monthOf (va_wsS RX0 63 yX0_yearOf wsX0_yearOf) := goodIn_app (goodIn_of _ (by decide +kernel)) ggX0_monthOf_X0_yearOf
set_option maxRecDepth 20000 in
theorem ggX0_monthOf_X0_monthStart : GoodIn wsX0_monthOf wsX0_monthStart := goodIn_r _ [13, 14, 15, 3, 16, 17, 18, 19] (by decide +kernel) (by decide +kernel)
set_option maxRecDepth 20000 in
theorem gX0_monthOf_X0_monthStart : GoodIn wsX0_monthOf (va_wsS RX0 34 yX0_monthStart wsX0_monthStart) := goodIn_app (goodIn_of _ (by decide +kernel)) ggX0_monthOf_X0_monthStart
set_option maxRecDepth 20000 in
theorem ggX0_dayOf_X0_yearOf : GoodIn wsX0_dayOf wsX0_yearOf := goodIn_r _ [4, 5, 6, 7, 8, 9, 10] (by decide +kernel) (by decide +kernel)
set_option maxRecDepth 20000 in
theorem gX0_dayOf_X0_yearOf : GoodIn wsX0_dayOf (va_wsS RX0 63 yX0_yearOf wsX0_yearOf) := goodIn_app (goodIn_of _ (by decide +kernel)) ggX0_dayOf_X0_yearOf
set_option maxRecDepth 20000 in
theorem ggX0_dayOf_X0_monthOf : GoodIn wsX0_dayOf wsX0_monthOf := goodIn_r _ [13, 1, 2, 3, 4, 5, 6, 7, 8, 9, 10, 14, 15, 16, 17, 18, 19, 20, 21, 22] (by decide +kernel) (by decide +kernel)
set_option maxRecDepth 20000 in
theorem gX0_dayOf_X0_monthOf : GoodIn wsX0_dayOf (va_wsS RX0 66 yX0_monthOf wsX0_monthOf) := goodIn_app (goodIn_of _ (by decide +kernel)) ggX0_dayOf_X0_monthOf
set_option maxRecDepth 20000 in
theorem ggX0_dayOf_X0_monthStart : GoodIn wsX0_dayOf wsX0_monthStart := goodIn_r _ [16, 17, 18, 3, 19, 20, 21, 22] (by decide +kernel) (by decide +kernel)
set_option maxRecDepth 20000 in
theorem gX0_dayOf_X0_monthStart : GoodIn wsX0_dayOf (va_wsS RX0 34 yX0_monthStart wsX0_monthStart) := goodIn_app (goodIn_of _ (by decide +kernel)) ggX0_dayOf_X0_monthStart
set_option maxRecDepth 20000 in
theorem ggX0_yearDayOf_X0_yearOf : GoodIn wsX0_yearDayOf wsX0_yearOf := goodIn_r _ [4, 5, 6, 7, 8, 9, 10] (by decide +kernel) (by decide +kernel)
set_option maxRecDepth 20000 in
theorem gX0_yearDayOf_X0_yearOf : GoodIn wsX0_yearDayOf (va_wsS RX0 63 yX0_yearOf wsX0_yearOf) := goodIn_app (goodIn_of _ (by decide +kernel)) ggX0_yearDayOf_X0_yearOf
set_option maxRecDepth 20000 in
theorem ggX0_yearDayOf_X0_yearStart : GoodIn wsX0_yearDayOf wsX0_yearStart := goodIn_r _ [13] (by decide +kernel) (by decide +kernel)
set_option maxRecDepth 20000 in
theorem gX0_yearDayOf_X0_yearStart : GoodIn wsX0_yearDayOf (va_wsS RX0 17 yX0_yearStart wsX0_yearStart) := goodIn_app (goodIn_of _ (by decide +kernel)) ggX0_yearDayOf_X0_yearStart
set_option maxRecDepth 20000 in
theorem ggX0_weekYearOf_X0_yearOf : GoodIn wsX0_weekYearOf wsX0_yearOf := goodIn_r _ [4, 5, 6, 7, 8, 9, 10] (by decide +kernel) (by decide +kernel)
set_option maxRecDepth 20000 in
theorem gX0_weekYearOf_X0_yearOf : GoodIn wsX0_weekYearOf (va_wsS RX0 63 yX0_yearOf wsX0_yearOf) := goodIn_app (goodIn_of _ (by decide +kernel)) ggX0_weekYearOf_X0_yearOf
set_option maxRecDepth 20000 in
theorem ggX0_weekOf_X0_weekYearOf : GoodIn wsX0_weekOf wsX0_weekYearOf := goodIn_r _ [4, 5, 6, 3, 7, 8, 9, 10, 11, 12, 13] (by decide +kernel) (by decide +kernel)
set_option maxRecDepth 20000 in
theorem gX0_weekOf_X0_weekYearOf : GoodIn wsX0_weekOf (va_wsS RX0 69 yX0_weekYearOf wsX0_weekYearOf) := goodIn_app (goodIn_of _ (by decide +kernel)) ggX0_weekOf_X0_weekYearOf
set_option maxRecDepth 20000 in
theorem ggX0_weekOf_X0_firstMonday : GoodIn wsX0_weekOf wsX0_firstMonday := goodIn_r _ [16, 17, 18, 3, 19] (by decide +kernel) (by decide +kernel)
set_option maxRecDepth 20000 in
theorem gX0_weekOf_X0_firstMonday : GoodIn wsX0_weekOf (va_wsS RX0 21 yX0_firstMonday wsX0_firstMonday) := goodIn_app (goodIn_of _ (by decide +kernel)) ggX0_weekOf_X0_firstMonday
set_option maxRecDepth 20000 in
theorem ggX0_movedByDays_X0_isNumber : GoodIn wsX0_movedByDays wsX0_isNumber := goodIn_r _ [4, 5] (by decide +kernel) (by decide +kernel)
set_option maxRecDepth 20000 in
theorem gX0_movedByDays_X0_isNumber : GoodIn wsX0_movedByDays (va_wsS RX0 46 yX0_isNumber wsX0_isNumber) := goodIn_app (goodIn_of _ (by decide +kernel)) ggX0_movedByDays_X0_isNumber
set_option maxRecDepth 20000 in
theorem ggX0_movedByMonths_X0_yearOf : GoodIn wsX0_movedByMonths wsX0_yearOf := goodIn_r _ [10, 11, 12, 3, 4, 5, 6] (by decide +kernel) (by decide +kernel)
set_option maxRecDepth 20000 in
theorem gX0_movedByMonths_X0_yearOf : GoodIn wsX0_movedByMonths (va_wsS RX0 63 yX0_yearOf wsX0_yearOf) := goodIn_app (goodIn_of _ (by decide +kernel)) ggX0_movedByMonths_X0_yearOf
set_option maxRecDepth 20000 in
theorem ggX0_movedByMonths_X0_monthOf : GoodIn wsX0_movedByMonths wsX0_monthOf := goodIn_r _ [15, 7, 8, 9, 10, 11, 12, 3, 4, 5, 6, 16, 17, 18, 19, 20, 21, 22, 23, 24] (by decide +kernel) (by decide +kernel)
set_option maxRecDepth 20000 in
theorem gX0_movedByMonths_X0_monthOf : GoodIn wsX0_movedByMonths (va_wsS RX0 66 yX0_monthOf wsX0_monthOf) := goodIn_app (goodIn_of _ (by decide +kernel)) ggX0_movedByMonths_X0_monthOf
set_option maxRecDepth 20000 in
theorem ggX0_movedByMonths_X0_dayOf : GoodIn wsX0_movedByMonths wsX0_dayOf := goodIn_r _ [27, 7, 8, 9, 10, 11, 12, 3, 4, 5, 6, 13, 14, 15, 16, 17, 18, 19, 20, 21, 22, 23, 24] (by decide +kernel) (by decide +kernel)
set_option maxRecDepth 20000 in
theorem gX0_movedByMonths_X0_dayOf : GoodIn wsX0_movedByMonths (va_wsS RX0 76 yX0_dayOf wsX0_dayOf) := goodIn_app (goodIn_of _ (by decide +kernel)) ggX0_movedByMonths_X0_dayOf
set_option maxRecDepth 20000 in
theorem ggX0_movedByMonths_X0_monthLength : GoodIn wsX0_movedByMonths wsX0_monthLength := goodIn_r _ [30, 19, 20, 9, 21] (by decide +kernel) (by decide +kernel)
set_option maxRecDepth 20000 in
theorem gX0_movedByMonths_X0_monthLength : GoodIn wsX0_movedByMonths (va_wsS RX0 30 yX0_monthLength wsX0_monthLength) := goodIn_app (goodIn_of _ (by decide +kernel)) ggX0_movedByMonths_X0_monthLength
set_option maxRecDepth 20000 in
theorem ggX0_movedByMonths_X0_monthStart : GoodIn wsX0_movedByMonths wsX0_monthStart := goodIn_r _ [18, 19, 20, 9, 21, 22, 23, 24] (by decide +kernel) (by decide +kernel)
set_option maxRecDepth 20000 in
theorem gX0_movedByMonths_X0_monthStart : GoodIn wsX0_movedByMonths (va_wsS RX0 34 yX0_monthStart wsX0_monthStart) := goodIn_app (goodIn_of _ (by decide +kernel)) ggX0_movedByMonths_X0_monthStart
set_option maxRecDepth 20000 in
theorem ggX0_monthsBetween_X0_yearOf : GoodIn wsX0_monthsBetween wsX0_yearOf := goodIn_r _ [4, 5, 6, 7, 8, 9, 10] (by decide +kernel) (by decide +kernel)
set_option maxRecDepth 20000 in
theorem gX0_monthsBetween_X0_yearOf : GoodIn wsX0_monthsBetween (va_wsS RX0 63 yX0_yearOf wsX0_yearOf) := goodIn_app (goodIn_of _ (by decide +kernel)) ggX0_monthsBetween_X0_yearOf
set_option maxRecDepth 20000 in
theorem ggX0_monthsBetween_X0_monthOf : GoodIn wsX0_monthsBetween wsX0_monthOf := goodIn_r _ [13, 1, 2, 3, 4, 5, 6, 7, 8, 9, 10, 14, 15, 16, 17, 18, 19, 20, 21, 22] (by decide +kernel) (by decide +kernel)
set_option maxRecDepth 20000 in
theorem gX0_monthsBetween_X0_monthOf : GoodIn wsX0_monthsBetween (va_wsS RX0 66 yX0_monthOf wsX0_monthOf) := goodIn_app (goodIn_of _ (by decide +kernel)) ggX0_monthsBetween_X0_monthOf
set_option maxRecDepth 20000 in
theorem ggX0_monthsBetween_X0_movedByMonths : GoodIn wsX0_monthsBetween wsX0_movedByMonths := goodIn_r _ [25, 26, 27, 7, 8, 9, 10, 1, 2, 3, 4, 5, 6, 11, 12, 13, 14, 15, 16, 17, 18, 19, 20, 21, 22, 28, 29, 30, 31, 32, 33] (by decide +kernel) (by decide +kernel)
set_option maxRecDepth 20000 in
theorem gX0_monthsBetween_X0_movedByMonths : GoodIn wsX0_monthsBetween (va_wsS RX0 79 yX0_movedByMonths wsX0_movedByMonths) := goodIn_app (goodIn_of _ (by decide +kernel)) ggX0_monthsBetween_X0_movedByMonths
set_option maxRecDepth 20000 in
theorem ggX1_addDigits_X1_add : GoodIn wsX1_addDigits wsX1_add := goodIn_r _ [5, 6, 7, 8, 9] (by decide +kernel) (by decide +kernel)
set_option maxRecDepth 20000 in
theorem gX1_addDigits_X1_add : GoodIn wsX1_addDigits (wsV RX1 19 RX1 yX1_add wsX1_add) := goodIn_app (goodIn_of _ (by decide +kernel)) ggX1_addDigits_X1_add
set_option maxRecDepth 20000 in
theorem ggX1_fitting_J0_length_8abf5 : GoodIn wsX1_fitting wsJ0_length_8abf5 := goodIn_r _ [10, 11, 12, 13, 14, 9, 15, 16, 17] (by decide +kernel) (by decide +kernel)
set_option maxRecDepth 20000 in
theorem gX1_fitting_J0_length_8abf5 : GoodIn wsX1_fitting (wsV RX1 23 RJ0 yJ0_length_8abf5 wsJ0_length_8abf5) := goodIn_app (goodIn_of _ (by decide +kernel)) ggX1_fitting_J0_length_8abf5
set_option maxRecDepth 20000 in
theorem ggX1_fitting_X1_at : GoodIn wsX1_fitting wsX1_at := goodIn_r _ [22, 1, 23, 64, 65] (by decide +kernel) (by decide +kernel)
set_option maxRecDepth 20000 in
theorem gX1_fitting_X1_at : GoodIn wsX1_fitting (wsV RX1 34 RX1 yX1_at wsX1_at) := goodIn_app (goodIn_of _ (by decide +kernel)) ggX1_fitting_X1_at
set_option maxRecDepth 20000 in
theorem ggX1_fitting_J0_charAt_5068e : GoodIn wsX1_fitting wsJ0_charAt_5068e := goodIn_r _ [27, 11, 28, 29, 30, 9, 31, 16, 17, 32, 33, 34, 35, 36, 37, 38, 39, 40, 41, 42, 43, 44, 45, 46, 47, 48, 49, 50, 51, 52, 53, 54, 55, 56, 57, 58, 59, 60] (by decide +kernel) (by decide +kernel)
set_option maxRecDepth 20000 in
theorem gX1_fitting_J0_charAt_5068e : GoodIn wsX1_fitting (wsV RX1 38 RJ0 yJ0_charAt_5068e wsJ0_charAt_5068e) := goodIn_app (goodIn_of _ (by decide +kernel)) ggX1_fitting_J0_charAt_5068e
set_option maxRecDepth 20000 in
theorem ggX1_fitting_X1_fits : GoodIn wsX1_fitting wsX1_fits := goodIn_r _ [63] (by decide +kernel) (by decide +kernel)
set_option maxRecDepth 20000 in
theorem gX1_fitting_X1_fits : GoodIn wsX1_fitting (va_wsS RX1 42 yX1_fits wsX1_fits) := goodIn_app (goodIn_of _ (by decide +kernel)) ggX1_fitting_X1_fits
set_option maxRecDepth 20000 in
theorem ggX1_digits_X1_at : GoodIn wsX1_digits wsX1_at := goodIn_r _ [5, 6, 7, 8, 9] (by decide +kernel) (by decide +kernel)
set_option maxRecDepth 20000 in
theorem gX1_digits_X1_at : GoodIn wsX1_digits (wsV RX1 34 RX1 yX1_at wsX1_at) := goodIn_app (goodIn_of _ (by decide +kernel)) ggX1_digits_X1_at
set_option maxRecDepth 20000 in
theorem ggX2_isMarked_X2_covers : GoodIn wsX2_isMarked wsX2_covers := goodIn_r _ [7, 2, 8, 9, 10, 11] (by decide +kernel) (by decide +kernel)
set_option maxRecDepth 20000 in
theorem gX2_isMarked_X2_covers : GoodIn wsX2_isMarked (wsV RX2 20 RX2 yX2_covers wsX2_covers) := goodIn_app (goodIn_of _ (by decide +kernel)) ggX2_isMarked_X2_covers
set_option maxRecDepth 20000 in
theorem ggX2_mark_X0_yearStart : GoodIn wsX2_mark wsX0_yearStart := goodIn_r _ [8] (by decide +kernel) (by decide +kernel)
set_option maxRecDepth 20000 in
theorem gX2_mark_X0_yearStart : GoodIn wsX2_mark (va_wsS RX2 24 yX0_yearStart wsX0_yearStart) := goodIn_app (goodIn_of _ (by decide +kernel)) ggX2_mark_X0_yearStart
set_option maxRecDepth 20000 in
theorem ggX2_mark_X0_yearLength : GoodIn wsX2_mark wsX0_yearLength := goodIn_r _ [11, 12, 13, 7, 14] (by decide +kernel) (by decide +kernel)
set_option maxRecDepth 20000 in
theorem gX2_mark_X0_yearLength : GoodIn wsX2_mark (va_wsS RX2 30 yX0_yearLength wsX0_yearLength) := goodIn_app (goodIn_of _ (by decide +kernel)) ggX2_mark_X0_yearLength
set_option maxRecDepth 20000 in
theorem ggX2_mark_J7_fill_53178 : GoodIn wsX2_mark wsJ7_fill_53178 := goodIn_r _ [18] (by decide +kernel) (by decide +kernel)
set_option maxRecDepth 20000 in
theorem gX2_mark_J7_fill_53178 : GoodIn wsX2_mark (va_wsS RX2 33 yJ7_fill_53178 wsJ7_fill_53178) := goodIn_app (goodIn_of _ (by decide +kernel)) ggX2_mark_J7_fill_53178
set_option maxRecDepth 20000 in
theorem ggX2_mark_Jx4a65c_size_8abf5 : GoodIn wsX2_mark wsJx4a65c_size_8abf5 := goodIn_r _ [23, 24, 102, 103, 104] (by decide +kernel) (by decide +kernel)
set_option maxRecDepth 20000 in
theorem gX2_mark_Jx4a65c_size_8abf5 : GoodIn wsX2_mark (wsV RX2 39 RJx4a65c yJx4a65c_size_8abf5 wsJx4a65c_size_8abf5) := goodIn_app (goodIn_of _ (by decide +kernel)) ggX2_mark_Jx4a65c_size_8abf5
set_option maxRecDepth 20000 in
theorem ggX2_mark_Jx4a65c_get_915e3 : GoodIn wsX2_mark wsJx4a65c_get_915e3 := goodIn_r _ [28, 24, 29, 30, 31, 32, 33, 34, 35, 36, 37, 38, 39, 22, 40, 41, 102, 103, 104] (by decide +kernel) (by decide +kernel)
set_option maxRecDepth 20000 in
theorem gX2_mark_Jx4a65c_get_915e3 : GoodIn wsX2_mark (wsV RX2 45 RJx4a65c yJx4a65c_get_915e3 wsJx4a65c_get_915e3) := goodIn_app (goodIn_of _ (by decide +kernel)) ggX2_mark_Jx4a65c_get_915e3
set_option maxRecDepth 20000 in
theorem ggX2_mark_X3_dayFor : GoodIn wsX2_mark wsX3_dayFor := goodIn_r _ [46, 47, 48, 49, 50, 51, 52, 7, 53, 54, 55, 56, 57, 58, 59, 60, 61, 62, 12, 13, 14, 63, 64, 65, 66, 6, 8, 67, 68, 69, 70, 71, 72, 73, 74, 75, 76, 77, 78, 45, 79, 80, 81, 82, 83, 84, 85, 86, 87, 88, 89, 105, 106, 107, 108] (by decide +kernel) (by decide +kernel)
set_option maxRecDepth 20000 in
theorem gX2_mark_X3_dayFor : GoodIn wsX2_mark (wsV RX2 51 RX3 yX3_dayFor wsX3_dayFor) := goodIn_app (goodIn_of _ (by decide +kernel)) ggX2_mark_X3_dayFor
set_option maxRecDepth 20000 in
theorem ggX2_mark_X2_markDay : GoodIn wsX2_mark wsX2_markDay := goodIn_r _ [94, 3, 1, 95, 96, 97, 93, 98, 2, 99, 100, 101] (by decide +kernel) (by decide +kernel)
set_option maxRecDepth 20000 in
theorem gX2_mark_X2_markDay : GoodIn wsX2_mark (wsV RX2 54 RX2 yX2_markDay wsX2_markDay) := goodIn_app (goodIn_of _ (by decide +kernel)) ggX2_mark_X2_markDay
set_option maxRecDepth 20000 in
theorem ggX2_markDay_X2_covers : GoodIn wsX2_markDay wsX2_covers := goodIn_r _ [7, 2, 8, 9, 10, 11] (by decide +kernel) (by decide +kernel)
set_option maxRecDepth 20000 in
theorem gX2_markDay_X2_covers : GoodIn wsX2_markDay (wsV RX2 20 RX2 yX2_covers wsX2_covers) := goodIn_app (goodIn_of _ (by decide +kernel)) ggX2_markDay_X2_covers
set_option maxRecDepth 20000 in
theorem ggX3_isRule_X0_civilNumber : GoodIn wsX3_isRule wsX0_civilNumber := goodIn_r _ [4, 5, 6, 3, 7, 8, 9, 10, 11, 12, 13, 14, 15, 16, 17, 18, 19, 20, 21, 22] (by decide +kernel) (by decide +kernel)
set_option maxRecDepth 20000 in
theorem gX3_isRule_X0_civilNumber : GoodIn wsX3_isRule (va_wsS RX3 24 yX0_civilNumber wsX0_civilNumber) := goodIn_app (goodIn_of _ (by decide +kernel)) ggX3_isRule_X0_civilNumber
set_option maxRecDepth 20000 in
theorem ggX3_isRule_X0_isMonth : GoodIn wsX3_isRule wsX0_isMonth := goodIn_r _ [10] (by decide +kernel) (by decide +kernel)
set_option maxRecDepth 20000 in
theorem gX3_isRule_X0_isMonth : GoodIn wsX3_isRule (va_wsS RX3 30 yX0_isMonth wsX0_isMonth) := goodIn_app (goodIn_of _ (by decide +kernel)) ggX3_isRule_X0_isMonth
set_option maxRecDepth 20000 in
theorem ggX3_isRule_X0_isWeekday : GoodIn wsX3_isRule wsX0_isWeekday := goodIn_r _ [26] (by decide +kernel) (by decide +kernel)
set_option maxRecDepth 20000 in
theorem gX3_isRule_X0_isWeekday : GoodIn wsX3_isRule (va_wsS RX3 34 yX0_isWeekday wsX0_isWeekday) := goodIn_app (goodIn_of _ (by decide +kernel)) ggX3_isRule_X0_isWeekday
set_option maxRecDepth 20000 in
theorem ggX3_givesDay_X0_yearOf : GoodIn wsX3_givesDay wsX0_yearOf := goodIn_r _ [4, 5, 6, 7, 8, 9, 10] (by decide +kernel) (by decide +kernel)
set_option maxRecDepth 20000 in
theorem gX3_givesDay_X0_yearOf : GoodIn wsX3_givesDay (va_wsS RX3 37 yX0_yearOf wsX0_yearOf) := goodIn_app (goodIn_of _ (by decide +kernel)) ggX3_givesDay_X0_yearOf
set_option maxRecDepth 20000 in
theorem ggX3_givesDay_X3_dayFor : GoodIn wsX3_givesDay wsX3_dayFor := goodIn_r _ [15, 16, 17, 18, 19, 20, 21, 3, 22, 23, 24, 25, 26, 27, 28, 29, 30, 31, 32, 33, 34, 35, 36, 37, 38, 39, 40, 41, 42, 43, 44, 45, 46, 47, 48, 49, 50, 51, 52, 14, 53, 54, 55, 56, 57, 58, 59, 60, 61, 62, 63, 64, 65, 66, 67] (by decide +kernel) (by decide +kernel)
set_option maxRecDepth 20000 in
theorem gX3_givesDay_X3_dayFor : GoodIn wsX3_givesDay (wsV RX3 41 RX3 yX3_dayFor wsX3_dayFor) := goodIn_app (goodIn_of _ (by decide +kernel)) ggX3_givesDay_X3_dayFor
set_option maxRecDepth 20000 in
theorem ggX3_dayFor_X0_civilNumber : GoodIn wsX3_dayFor wsX0_civilNumber := goodIn_r _ [8, 9, 10, 7, 11, 12, 13, 14, 15, 16, 17, 18, 19, 20, 21, 22, 23, 24, 25, 26] (by decide +kernel) (by decide +kernel)
set_option maxRecDepth 20000 in
theorem gX3_dayFor_X0_civilNumber : GoodIn wsX3_dayFor (va_wsS RX3 24 yX0_civilNumber wsX0_civilNumber) := goodIn_app (goodIn_of _ (by decide +kernel)) ggX3_dayFor_X0_civilNumber
set_option maxRecDepth 20000 in
theorem ggX3_dayFor_X0_easterNumber : GoodIn wsX3_dayFor wsX0_easterNumber := goodIn_r _ [29, 21, 22, 7, 23, 18, 19, 20, 24, 25, 26, 30, 31, 32, 33, 34, 35] (by decide +kernel) (by decide +kernel)
set_option maxRecDepth 20000 in
theorem gX3_dayFor_X0_easterNumber : GoodIn wsX3_dayFor (va_wsS RX3 44 yX0_easterNumber wsX0_easterNumber) := goodIn_app (goodIn_of _ (by decide +kernel)) ggX3_dayFor_X0_easterNumber
set_option maxRecDepth 20000 in
theorem ggX3_dayFor_X3_behindEaster : GoodIn wsX3_dayFor wsX3_behindEaster := goodIn_r _ [40, 2, 51, 52, 53, 54] (by decide +kernel) (by decide +kernel)
set_option maxRecDepth 20000 in
theorem gX3_dayFor_X3_behindEaster : GoodIn wsX3_dayFor (wsV RX3 47 RX3 yX3_behindEaster wsX3_behindEaster) := goodIn_app (goodIn_of _ (by decide +kernel)) ggX3_dayFor_X3_behindEaster
set_option maxRecDepth 20000 in
theorem ggX3_dayFor_X0_nthNumber : GoodIn wsX3_dayFor wsX0_nthNumber := goodIn_r _ [43, 9, 10, 7, 11, 12, 13, 14, 44, 45, 46, 21, 22, 23, 18, 19, 20, 24, 25, 26, 15, 16, 17, 30, 31, 32, 33, 34, 35] (by decide +kernel) (by decide +kernel)
set_option maxRecDepth 20000 in
theorem gX3_dayFor_X0_nthNumber : GoodIn wsX3_dayFor (va_wsS RX3 50 yX0_nthNumber wsX0_nthNumber) := goodIn_app (goodIn_of _ (by decide +kernel)) ggX3_dayFor_X0_nthNumber
set_option maxRecDepth 20000 in
theorem ggX3_dayFor_X3_observed : GoodIn wsX3_dayFor wsX3_observed := goodIn_r _ [49, 50, 34, 7, 35] (by decide +kernel) (by decide +kernel)
set_option maxRecDepth 20000 in
theorem gX3_dayFor_X3_observed : GoodIn wsX3_dayFor (va_wsS RX3 54 yX3_observed wsX3_observed) := goodIn_app (goodIn_of _ (by decide +kernel)) ggX3_dayFor_X3_observed
set_option maxRecDepth 20000 in
theorem ggX3_observed_X0_weekdayOf : GoodIn wsX3_observed wsX0_weekdayOf := goodIn_r _ [4] (by decide +kernel) (by decide +kernel)
set_option maxRecDepth 20000 in
theorem gX3_observed_X0_weekdayOf : GoodIn wsX3_observed (va_wsS RX3 57 yX0_weekdayOf wsX0_weekdayOf) := goodIn_app (goodIn_of _ (by decide +kernel)) ggX3_observed_X0_weekdayOf
set_option maxRecDepth 20000 in
theorem ggX4_init_Jx4a65c_init_da8c8 : GoodIn wsX4_init wsJx4a65c_init_da8c8 := goodIn_r _ [21, 22, 23, 24, 25, 26, 27, 28, 29, 30, 31, 32, 33, 2, 3, 72, 73, 74] (by decide +kernel) (by decide +kernel)
set_option maxRecDepth 20000 in
theorem gX4_init_Jx4a65c_init_da8c8 : GoodIn wsX4_init (wsJx4a65c_init_da8c8) := ggX4_init_Jx4a65c_init_da8c8
set_option maxRecDepth 20000 in
theorem ggX4_init_X2_init : GoodIn wsX4_init wsX2_init := goodIn_r _ [35, 36, 2, 3, 4, 37, 38, 39, 75, 76, 77] (by decide +kernel) (by decide +kernel)
set_option maxRecDepth 20000 in
theorem gX4_init_X2_init_n22 : GoodIn wsX4_init (wsX2_init) := ggX4_init_X2_init
set_option maxRecDepth 20000 in
theorem ggX4_init_X1_init : GoodIn wsX4_init wsX1_init := goodIn_r _ [41, 42, 2, 3, 4, 43, 44, 78, 79] (by decide +kernel) (by decide +kernel)
set_option maxRecDepth 20000 in
theorem gX4_init_X1_init_n29 : GoodIn wsX4_init (wsX1_init) := ggX4_init_X1_init
set_option maxRecDepth 20000 in
theorem ggX4_init_X4_clear : GoodIn wsX4_init wsX4_clear := goodIn_r _ [49, 5, 9, 17, 18, 50, 51, 52, 53, 54, 55, 56, 57, 8, 58, 59, 60, 23, 61, 62, 63, 64, 16, 65, 44, 66, 67, 68, 69, 70, 71, 72, 73, 74, 78, 79] (by decide +kernel) (by decide +kernel)
set_option maxRecDepth 20000 in
theorem gX4_init_X4_clear : GoodIn wsX4_init (wsV RX4 37 RX4 yX4_clear wsX4_clear) := goodIn_app (goodIn_of _ (by decide +kernel)) ggX4_init_X4_clear
set_option maxRecDepth 20000 in
theorem ggX4_civil_X4_needSlot : GoodIn wsX4_civil wsX4_needSlot := goodIn_ca (goodIn_r _ [4, 5, 6] (by decide +kernel) (by decide +kernel)) (goodIn_sub (fun _ h => List.mem_cons_of_mem _ (List.mem_append_left _ (List.mem_append_right _ h))) (by decide +kernel))
set_option maxRecDepth 20000 in
theorem gX4_civil_X4_needSlot : GoodIn wsX4_civil (va_wsS RX4 40 yX4_needSlot wsX4_needSlot) := goodIn_app (goodIn_of _ (by decide +kernel)) ggX4_civil_X4_needSlot
set_option maxRecDepth 20000 in
theorem ggX4_civil_X0_civilNumber : GoodIn wsX4_civil wsX0_civilNumber := goodIn_r _ [10, 11, 12, 9, 13, 14, 15, 16, 17, 18, 19, 20, 21, 22, 23, 24, 25, 26, 27, 28] (by decide +kernel) (by decide +kernel)
set_option maxRecDepth 20000 in
theorem gX4_civil_X0_civilNumber : GoodIn wsX4_civil (va_wsS RX4 44 yX0_civilNumber wsX0_civilNumber) := goodIn_app (goodIn_of _ (by decide +kernel)) ggX4_civil_X0_civilNumber
set_option maxRecDepth 20000 in
theorem ggX4_civil_X4_keep : GoodIn wsX4_civil wsX4_keep := goodIn_ca (goodIn_r _ [32, 33, 34, 35, 36, 37, 38, 39, 40, 41] (by decide +kernel) (by decide +kernel)) (goodIn_sub (fun _ h => List.mem_cons_of_mem _ (List.mem_append_right _ h)) (by decide +kernel))
set_option maxRecDepth 20000 in
theorem gX4_civil_X4_keep : GoodIn wsX4_civil (wsV RX4 50 RX4 yX4_keep wsX4_keep) := goodIn_app (goodIn_of _ (by decide +kernel)) ggX4_civil_X4_keep
set_option maxRecDepth 20000 in
theorem ggX4_days_X4_needSlot : GoodIn wsX4_days wsX4_needSlot := goodIn_ca (goodIn_r _ [4, 5, 6] (by decide +kernel) (by decide +kernel)) (goodIn_sub (fun _ h => List.mem_cons_of_mem _ (List.mem_append_left _ (List.mem_append_right _ h))) (by decide +kernel))
set_option maxRecDepth 20000 in
theorem gX4_days_X4_needSlot : GoodIn wsX4_days (va_wsS RX4 40 yX4_needSlot wsX4_needSlot) := goodIn_app (goodIn_of _ (by decide +kernel)) ggX4_days_X4_needSlot
set_option maxRecDepth 20000 in
theorem ggX4_days_X0_isNumber : GoodIn wsX4_days wsX0_isNumber := goodIn_r _ [10, 11] (by decide +kernel) (by decide +kernel)
set_option maxRecDepth 20000 in
theorem gX4_days_X0_isNumber : GoodIn wsX4_days (va_wsS RX4 54 yX0_isNumber wsX0_isNumber) := goodIn_app (goodIn_of _ (by decide +kernel)) ggX4_days_X0_isNumber
set_option maxRecDepth 20000 in
theorem ggX4_days_X4_keep : GoodIn wsX4_days wsX4_keep := goodIn_ca (goodIn_r _ [15, 16, 17, 18, 22, 23, 24, 25, 26, 27] (by decide +kernel) (by decide +kernel)) (goodIn_sub (fun _ h => List.mem_cons_of_mem _ (List.mem_append_right _ h)) (by decide +kernel))
set_option maxRecDepth 20000 in
theorem gX4_days_X4_keep : GoodIn wsX4_days (wsV RX4 50 RX4 yX4_keep wsX4_keep) := goodIn_app (goodIn_of _ (by decide +kernel)) ggX4_days_X4_keep
set_option maxRecDepth 20000 in
theorem ggX4_days_X0_weekdayOf : GoodIn wsX4_days wsX0_weekdayOf := goodIn_r _ [21] (by decide +kernel) (by decide +kernel)
set_option maxRecDepth 20000 in
theorem gX4_days_X0_weekdayOf : GoodIn wsX4_days (va_wsS RX4 58 yX0_weekdayOf wsX0_weekdayOf) := goodIn_app (goodIn_of _ (by decide +kernel)) ggX4_days_X0_weekdayOf
set_option maxRecDepth 20000 in
theorem ggX4_week_X4_needSlot : GoodIn wsX4_week wsX4_needSlot := goodIn_ca (goodIn_r _ [4, 5, 6] (by decide +kernel) (by decide +kernel)) (goodIn_sub (fun _ h => List.mem_cons_of_mem _ (List.mem_append_left _ (List.mem_append_right _ h))) (by decide +kernel))
set_option maxRecDepth 20000 in
theorem gX4_week_X4_needSlot : GoodIn wsX4_week (va_wsS RX4 40 yX4_needSlot wsX4_needSlot) := goodIn_app (goodIn_of _ (by decide +kernel)) ggX4_week_X4_needSlot
set_option maxRecDepth 20000 in
theorem ggX4_week_X0_weekNumber : GoodIn wsX4_week wsX0_weekNumber := goodIn_r _ [10, 11, 12, 9, 13, 14, 15, 16, 17, 18, 19, 20, 21, 22, 23, 24, 25, 26, 27, 28, 29] (by decide +kernel) (by decide +kernel)
set_option maxRecDepth 20000 in
theorem gX4_week_X0_weekNumber : GoodIn wsX4_week (va_wsS RX4 62 yX0_weekNumber wsX0_weekNumber) := goodIn_app (goodIn_of _ (by decide +kernel)) ggX4_week_X0_weekNumber
set_option maxRecDepth 20000 in
theorem ggX4_week_X4_keep : GoodIn wsX4_week wsX4_keep := goodIn_ca (goodIn_r _ [33, 34, 35, 36, 37, 38, 39, 40, 41, 42] (by decide +kernel) (by decide +kernel)) (goodIn_sub (fun _ h => List.mem_cons_of_mem _ (List.mem_append_right _ h)) (by decide +kernel))
set_option maxRecDepth 20000 in
theorem gX4_week_X4_keep : GoodIn wsX4_week (wsV RX4 50 RX4 yX4_keep wsX4_keep) := goodIn_app (goodIn_of _ (by decide +kernel)) ggX4_week_X4_keep
set_option maxRecDepth 20000 in
theorem ggX4_easter_X4_needSlot : GoodIn wsX4_easter wsX4_needSlot := goodIn_ca (goodIn_r _ [4, 5, 6] (by decide +kernel) (by decide +kernel)) (goodIn_sub (fun _ h => List.mem_cons_of_mem _ (List.mem_append_left _ (List.mem_append_right _ h))) (by decide +kernel))
set_option maxRecDepth 20000 in
theorem gX4_easter_X4_needSlot : GoodIn wsX4_easter (va_wsS RX4 40 yX4_needSlot wsX4_needSlot) := goodIn_app (goodIn_of _ (by decide +kernel)) ggX4_easter_X4_needSlot
set_option maxRecDepth 20000 in
theorem ggX4_easter_X0_easterNumber : GoodIn wsX4_easter wsX0_easterNumber := goodIn_r _ [10, 11, 12, 9, 13, 14, 15, 16, 17, 18, 19, 20, 21, 22, 23, 24, 25] (by decide +kernel) (by decide +kernel)
set_option maxRecDepth 20000 in
theorem gX4_easter_X0_easterNumber : GoodIn wsX4_easter (va_wsS RX4 65 yX0_easterNumber wsX0_easterNumber) := goodIn_app (goodIn_of _ (by decide +kernel)) ggX4_easter_X0_easterNumber
set_option maxRecDepth 20000 in
theorem ggX4_easter_X4_keep : GoodIn wsX4_easter wsX4_keep := goodIn_ca (goodIn_r _ [29, 30, 31, 32, 33, 34, 35, 36, 37, 38] (by decide +kernel) (by decide +kernel)) (goodIn_sub (fun _ h => List.mem_cons_of_mem _ (List.mem_append_right _ h)) (by decide +kernel))
set_option maxRecDepth 20000 in
theorem gX4_easter_X4_keep : GoodIn wsX4_easter (wsV RX4 50 RX4 yX4_keep wsX4_keep) := goodIn_app (goodIn_of _ (by decide +kernel)) ggX4_easter_X4_keep
set_option maxRecDepth 20000 in
theorem ggX4_nth_X4_needSlot : GoodIn wsX4_nth wsX4_needSlot := goodIn_ca (goodIn_r _ [4, 5, 6] (by decide +kernel) (by decide +kernel)) (goodIn_sub (fun _ h => List.mem_cons_of_mem _ (List.mem_append_left _ (List.mem_append_right _ h))) (by decide +kernel))
set_option maxRecDepth 20000 in
theorem gX4_nth_X4_needSlot : GoodIn wsX4_nth (va_wsS RX4 40 yX4_needSlot wsX4_needSlot) := goodIn_app (goodIn_of _ (by decide +kernel)) ggX4_nth_X4_needSlot
set_option maxRecDepth 20000 in
theorem ggX4_nth_X0_nthNumber : GoodIn wsX4_nth wsX0_nthNumber := goodIn_r _ [10, 11, 12, 9, 13, 14, 15, 16, 17, 18, 19, 20, 21, 22, 23, 24, 25, 26, 27, 28, 29, 30, 31, 32, 33, 34, 35, 36, 37] (by decide +kernel) (by decide +kernel)
set_option maxRecDepth 20000 in
theorem gX4_nth_X0_nthNumber : GoodIn wsX4_nth (va_wsS RX4 68 yX0_nthNumber wsX0_nthNumber) := goodIn_app (goodIn_of _ (by decide +kernel)) ggX4_nth_X0_nthNumber
set_option maxRecDepth 20000 in
theorem ggX4_nth_X4_keep : GoodIn wsX4_nth wsX4_keep := goodIn_ca (goodIn_r _ [41, 42, 43, 44, 45, 46, 47, 48, 49, 50] (by decide +kernel) (by decide +kernel)) (goodIn_sub (fun _ h => List.mem_cons_of_mem _ (List.mem_append_right _ h)) (by decide +kernel))
set_option maxRecDepth 20000 in
theorem gX4_nth_X4_keep : GoodIn wsX4_nth (wsV RX4 50 RX4 yX4_keep wsX4_keep) := goodIn_app (goodIn_of _ (by decide +kernel)) ggX4_nth_X4_keep
set_option maxRecDepth 20000 in
theorem ggX4_move_X4_needSlot : GoodIn wsX4_move wsX4_needSlot := goodIn_ca (goodIn_r _ [6, 7, 8] (by decide +kernel) (by decide +kernel)) (goodIn_sub (fun _ h => List.mem_cons_of_mem _ (List.mem_append_left _ (List.mem_append_left _ (List.mem_append_right _ h)))) (by decide +kernel))
set_option maxRecDepth 20000 in
theorem gX4_move_X4_needSlot : GoodIn wsX4_move (va_wsS RX4 40 yX4_needSlot wsX4_needSlot) := goodIn_app (goodIn_of _ (by decide +kernel)) ggX4_move_X4_needSlot
set_option maxRecDepth 20000 in
theorem ggX4_move_X4_needUnit : GoodIn wsX4_move wsX4_needUnit := goodIn_ca (goodIn_r _ [11, 12, 13] (by decide +kernel) (by decide +kernel)) (goodIn_sub (fun _ h => List.mem_cons_of_mem _ (List.mem_append_left _ (List.mem_append_right _ h))) (by decide +kernel))
set_option maxRecDepth 20000 in
theorem gX4_move_X4_needUnit : GoodIn wsX4_move (va_wsS RX4 72 yX4_needUnit wsX4_needUnit) := goodIn_app (goodIn_of _ (by decide +kernel)) ggX4_move_X4_needUnit
set_option maxRecDepth 20000 in
theorem ggX4_move_X4_dateIn : GoodIn wsX4_move wsX4_dateIn := goodIn_ca (goodIn_r _ [17, 18, 19, 20, 69, 70, 71, 72, 73, 74] (by decide +kernel) (by decide +kernel)) (goodIn_sub (fun _ h => List.mem_cons_of_mem _ (List.mem_append_right _ h)) (by decide +kernel))
set_option maxRecDepth 20000 in
theorem gX4_move_X4_dateIn : GoodIn wsX4_move (wsV RX4 75 RX4 yX4_dateIn wsX4_dateIn) := goodIn_app (goodIn_of _ (by decide +kernel)) ggX4_move_X4_dateIn
set_option maxRecDepth 20000 in
theorem ggX4_move_X4_moved : GoodIn wsX4_move wsX4_moved := goodIn_r _ [23, 24, 25, 26, 27, 28, 29, 30, 31, 32, 33, 34, 35, 36, 37, 38, 39, 40, 41, 42, 43, 44, 45, 46, 47, 48, 49, 50, 51, 52, 53, 54, 55, 56, 57, 58, 59, 60, 61, 62, 63, 64] (by decide +kernel) (by decide +kernel)
set_option maxRecDepth 20000 in
theorem gX4_move_X4_moved : GoodIn wsX4_move (va_wsS RX4 78 yX4_moved wsX4_moved) := goodIn_app (goodIn_of _ (by decide +kernel)) ggX4_move_X4_moved
set_option maxRecDepth 20000 in
theorem ggX4_move_X4_keep : GoodIn wsX4_move wsX4_keep := goodIn_ca (goodIn_r _ [68, 12, 13, 20, 69, 70, 71, 72, 73, 74] (by decide +kernel) (by decide +kernel)) (goodIn_sub (fun _ h => List.mem_cons_of_mem _ (List.mem_append_left _ (List.mem_append_right _ h))) (by decide +kernel))
set_option maxRecDepth 20000 in
theorem gX4_move_X4_keep : GoodIn wsX4_move (wsV RX4 50 RX4 yX4_keep wsX4_keep) := goodIn_app (goodIn_of _ (by decide +kernel)) ggX4_move_X4_keep
set_option maxRecDepth 20000 in
theorem ggX4_told_X4_needSlot : GoodIn wsX4_told wsX4_needSlot := goodIn_ca (goodIn_r _ [6, 7, 8] (by decide +kernel) (by decide +kernel)) (goodIn_sub (fun _ h => List.mem_cons_of_mem _ (List.mem_append_left _ (List.mem_append_right _ h))) (by decide +kernel))
set_option maxRecDepth 20000 in
theorem gX4_told_X4_needSlot : GoodIn wsX4_told (va_wsS RX4 40 yX4_needSlot wsX4_needSlot) := goodIn_app (goodIn_of _ (by decide +kernel)) ggX4_told_X4_needSlot
set_option maxRecDepth 20000 in
theorem ggX4_told_X4_dateIn : GoodIn wsX4_told wsX4_dateIn := goodIn_ca (goodIn_r _ [12, 13, 14, 15, 66, 67, 68, 69, 70, 71] (by decide +kernel) (by decide +kernel)) (goodIn_sub (fun _ h => List.mem_cons_of_mem _ (List.mem_append_right _ h)) (by decide +kernel))
set_option maxRecDepth 20000 in
theorem gX4_told_X4_dateIn : GoodIn wsX4_told (wsV RX4 75 RX4 yX4_dateIn wsX4_dateIn) := goodIn_app (goodIn_of _ (by decide +kernel)) ggX4_told_X4_dateIn
set_option maxRecDepth 20000 in
theorem ggX4_told_X0_yearOf : GoodIn wsX4_told wsX0_yearOf := goodIn_r _ [19, 20, 21, 22, 23, 24, 25] (by decide +kernel) (by decide +kernel)
set_option maxRecDepth 20000 in
theorem gX4_told_X0_yearOf : GoodIn wsX4_told (va_wsS RX4 93 yX0_yearOf wsX0_yearOf) := goodIn_app (goodIn_of _ (by decide +kernel)) ggX4_told_X0_yearOf
set_option maxRecDepth 20000 in
theorem ggX4_told_X0_monthOf : GoodIn wsX4_told wsX0_monthOf := goodIn_r _ [28, 29, 17, 18, 19, 20, 21, 22, 23, 24, 25, 30, 31, 32, 33, 34, 35, 36, 37, 38] (by decide +kernel) (by decide +kernel)
set_option maxRecDepth 20000 in
theorem gX4_told_X0_monthOf : GoodIn wsX4_told (va_wsS RX4 96 yX0_monthOf wsX0_monthOf) := goodIn_app (goodIn_of _ (by decide +kernel)) ggX4_told_X0_monthOf
set_option maxRecDepth 20000 in
theorem ggX4_told_X0_dayOf : GoodIn wsX4_told wsX0_dayOf := goodIn_r _ [41, 29, 17, 18, 19, 20, 21, 22, 23, 24, 25, 42, 27, 28, 30, 31, 32, 33, 34, 35, 36, 37, 38] (by decide +kernel) (by decide +kernel)
set_option maxRecDepth 20000 in
theorem gX4_told_X0_dayOf : GoodIn wsX4_told (va_wsS RX4 99 yX0_dayOf wsX0_dayOf) := goodIn_app (goodIn_of _ (by decide +kernel)) ggX4_told_X0_dayOf
set_option maxRecDepth 20000 in
theorem ggX4_told_X0_weekdayOf : GoodIn wsX4_told wsX0_weekdayOf := goodIn_r _ [45] (by decide +kernel) (by decide +kernel)
set_option maxRecDepth 20000 in
theorem gX4_told_X0_weekdayOf : GoodIn wsX4_told (va_wsS RX4 58 yX0_weekdayOf wsX0_weekdayOf) := goodIn_app (goodIn_of _ (by decide +kernel)) ggX4_told_X0_weekdayOf
set_option maxRecDepth 20000 in
theorem ggX4_told_X0_weekYearOf : GoodIn wsX4_told wsX0_weekYearOf := goodIn_r _ [48, 29, 17, 18, 19, 20, 21, 22, 23, 24, 25] (by decide +kernel) (by decide +kernel)
set_option maxRecDepth 20000 in
theorem gX4_told_X0_weekYearOf : GoodIn wsX4_told (va_wsS RX4 102 yX0_weekYearOf wsX0_weekYearOf) := goodIn_app (goodIn_of _ (by decide +kernel)) ggX4_told_X0_weekYearOf
set_option maxRecDepth 20000 in
theorem ggX4_told_X0_weekOf : GoodIn wsX4_told wsX0_weekOf := goodIn_r _ [51, 52, 47, 18, 48, 29, 17, 19, 20, 21, 22, 23, 24, 25, 53, 54, 55, 36, 37, 38] (by decide +kernel) (by decide +kernel)
set_option maxRecDepth 20000 in
theorem gX4_told_X0_weekOf : GoodIn wsX4_told (va_wsS RX4 105 yX0_weekOf wsX0_weekOf) := goodIn_app (goodIn_of _ (by decide +kernel)) ggX4_told_X0_weekOf
set_option maxRecDepth 20000 in
theorem ggX4_told_X0_yearDayOf : GoodIn wsX4_told wsX0_yearDayOf := goodIn_r _ [58, 29, 17, 18, 19, 20, 21, 22, 23, 24, 25, 36, 37, 38] (by decide +kernel) (by decide +kernel)
set_option maxRecDepth 20000 in
theorem gX4_told_X0_yearDayOf : GoodIn wsX4_told (va_wsS RX4 108 yX0_yearDayOf wsX0_yearDayOf) := goodIn_app (goodIn_of _ (by decide +kernel)) ggX4_told_X0_yearDayOf
set_option maxRecDepth 20000 in
theorem ggX4_told_X0_isLeap : GoodIn wsX4_told wsX0_isLeap := goodIn_r _ [35] (by decide +kernel) (by decide +kernel)
set_option maxRecDepth 20000 in
theorem gX4_told_X0_isLeap : GoodIn wsX4_told (va_wsS RX4 111 yX0_isLeap wsX0_isLeap) := goodIn_app (goodIn_of _ (by decide +kernel)) ggX4_told_X0_isLeap
set_option maxRecDepth 20000 in
theorem ggX4_told_X0_monthLength : GoodIn wsX4_told wsX0_monthLength := goodIn_r _ [62, 33, 34, 18, 35] (by decide +kernel) (by decide +kernel)
set_option maxRecDepth 20000 in
theorem gX4_told_X0_monthLength : GoodIn wsX4_told (va_wsS RX4 115 yX0_monthLength wsX0_monthLength) := goodIn_app (goodIn_of _ (by decide +kernel)) ggX4_told_X0_monthLength
set_option maxRecDepth 20000 in
theorem ggX4_told_X0_weeksIn : GoodIn wsX4_told wsX0_weeksIn := goodIn_r _ [65, 53, 54, 18, 55, 36, 37, 38] (by decide +kernel) (by decide +kernel)
set_option maxRecDepth 20000 in
theorem gX4_told_X0_weeksIn : GoodIn wsX4_told (va_wsS RX4 118 yX0_weeksIn wsX0_weeksIn) := goodIn_app (goodIn_of _ (by decide +kernel)) ggX4_told_X0_weeksIn
set_option maxRecDepth 20000 in
theorem ggX4_between_X4_needSlot : GoodIn wsX4_between wsX4_needSlot := goodIn_ca (goodIn_r _ [4, 5, 6] (by decide +kernel) (by decide +kernel)) (goodIn_sub (fun _ h => List.mem_cons_of_mem _ (List.mem_append_left _ (List.mem_append_left _ (List.mem_append_right _ h)))) (by decide +kernel))
set_option maxRecDepth 20000 in
theorem gX4_between_X4_needSlot : GoodIn wsX4_between (va_wsS RX4 40 yX4_needSlot wsX4_needSlot) := goodIn_app (goodIn_of _ (by decide +kernel)) ggX4_between_X4_needSlot
set_option maxRecDepth 20000 in
theorem ggX4_between_X4_needUnit : GoodIn wsX4_between wsX4_needUnit := goodIn_ca (goodIn_r _ [9, 10, 11] (by decide +kernel) (by decide +kernel)) (goodIn_sub (fun _ h => List.mem_cons_of_mem _ (List.mem_append_left _ (List.mem_append_right _ h))) (by decide +kernel))
set_option maxRecDepth 20000 in
theorem gX4_between_X4_needUnit : GoodIn wsX4_between (va_wsS RX4 72 yX4_needUnit wsX4_needUnit) := goodIn_app (goodIn_of _ (by decide +kernel)) ggX4_between_X4_needUnit
set_option maxRecDepth 20000 in
theorem ggX4_between_X4_dateIn : GoodIn wsX4_between wsX4_dateIn := goodIn_ca (goodIn_r _ [15, 16, 17, 18, 58, 59, 60, 61, 62, 63] (by decide +kernel) (by decide +kernel)) (goodIn_sub (fun _ h => List.mem_cons_of_mem _ (List.mem_append_right _ h)) (by decide +kernel))
set_option maxRecDepth 20000 in
theorem gX4_between_X4_dateIn : GoodIn wsX4_between (wsV RX4 75 RX4 yX4_dateIn wsX4_dateIn) := goodIn_app (goodIn_of _ (by decide +kernel)) ggX4_between_X4_dateIn
set_option maxRecDepth 20000 in
theorem ggX4_between_X4_wholeUnits : GoodIn wsX4_between wsX4_wholeUnits := goodIn_r _ [21, 22, 23, 24, 25, 26, 27, 28, 29, 30, 31, 32, 33, 34, 35, 36, 37, 38, 39, 40, 41, 42, 43, 44, 45, 46, 47, 48, 49, 50, 51, 52, 53, 54, 55, 56, 57] (by decide +kernel) (by decide +kernel)
set_option maxRecDepth 20000 in
theorem gX4_between_X4_wholeUnits : GoodIn wsX4_between (va_wsS RX4 121 yX4_wholeUnits wsX4_wholeUnits) := goodIn_app (goodIn_of _ (by decide +kernel)) ggX4_between_X4_wholeUnits
set_option maxRecDepth 20000 in
theorem ggX4_copy_X4_needSlot : GoodIn wsX4_copy wsX4_needSlot := goodIn_ca (goodIn_r _ [4, 5, 6] (by decide +kernel) (by decide +kernel)) (goodIn_sub (fun _ h => List.mem_cons_of_mem _ (List.mem_append_left _ (List.mem_append_left _ (List.mem_append_right _ h)))) (by decide +kernel))
set_option maxRecDepth 20000 in
theorem gX4_copy_X4_needSlot : GoodIn wsX4_copy (va_wsS RX4 40 yX4_needSlot wsX4_needSlot) := goodIn_app (goodIn_of _ (by decide +kernel)) ggX4_copy_X4_needSlot
set_option maxRecDepth 20000 in
theorem ggX4_copy_X4_dateIn : GoodIn wsX4_copy wsX4_dateIn := goodIn_ca (goodIn_r _ [10, 11, 12, 13, 20, 21, 22, 23, 24, 25] (by decide +kernel) (by decide +kernel)) (goodIn_sub (fun _ h => List.mem_cons_of_mem _ (List.mem_append_left _ (List.mem_append_right _ h))) (by decide +kernel))
set_option maxRecDepth 20000 in
theorem gX4_copy_X4_dateIn : GoodIn wsX4_copy (wsV RX4 75 RX4 yX4_dateIn wsX4_dateIn) := goodIn_app (goodIn_of _ (by decide +kernel)) ggX4_copy_X4_dateIn
set_option maxRecDepth 20000 in
theorem ggX4_copy_X4_keep : GoodIn wsX4_copy wsX4_keep := goodIn_ca (goodIn_r _ [17, 18, 19, 13, 20, 21, 22, 23, 24, 25] (by decide +kernel) (by decide +kernel)) (goodIn_sub (fun _ h => List.mem_cons_of_mem _ (List.mem_append_right _ h)) (by decide +kernel))
set_option maxRecDepth 20000 in
theorem gX4_copy_X4_keep : GoodIn wsX4_copy (wsV RX4 50 RX4 yX4_keep wsX4_keep) := goodIn_app (goodIn_of _ (by decide +kernel)) ggX4_copy_X4_keep
set_option maxRecDepth 20000 in
theorem ggX4_holiday_X3_isRule : GoodIn wsX4_holiday wsX3_isRule := goodIn_r _ [11, 12, 13, 14, 15, 16, 17, 18, 19, 20, 21, 22, 23, 24, 25, 26, 27, 28, 29, 30, 31, 32, 33, 34, 35, 36, 37] (by decide +kernel) (by decide +kernel)
set_option maxRecDepth 20000 in
theorem gX4_holiday_X3_isRule : GoodIn wsX4_holiday (va_wsS RX4 124 yX3_isRule wsX3_isRule) := goodIn_app (goodIn_of _ (by decide +kernel)) ggX4_holiday_X3_isRule
set_option maxRecDepth 20000 in
theorem ggX4_holiday_Jx4a65c_size_8abf5 : GoodIn wsX4_holiday wsJx4a65c_size_8abf5 := goodIn_r _ [42, 43, 118, 119, 120] (by decide +kernel) (by decide +kernel)
set_option maxRecDepth 20000 in
theorem gX4_holiday_Jx4a65c_size_8abf5 : GoodIn wsX4_holiday (wsV RX4 132 RJx4a65c yJx4a65c_size_8abf5 wsJx4a65c_size_8abf5) := goodIn_app (goodIn_of _ (by decide +kernel)) ggX4_holiday_Jx4a65c_size_8abf5
set_option maxRecDepth 20000 in
theorem ggX4_holiday_X3_init : GoodIn wsX4_holiday wsX3_init := goodIn_r _ [46, 47, 48, 49, 50, 51, 52, 53, 114, 115, 116, 117] (by decide +kernel) (by decide +kernel)
set_option maxRecDepth 20000 in
theorem gX4_holiday_X3_init : GoodIn wsX4_holiday (wsX3_init) := ggX4_holiday_X3_init
set_option maxRecDepth 20000 in
theorem ggX4_holiday_Jx4a65c_add_9ea2d : GoodIn wsX4_holiday wsJx4a65c_add_9ea2d := goodIn_r _ [57, 58, 59, 60, 43, 61, 62, 63, 41, 64, 65, 66, 67, 68, 69, 70, 71, 72, 73, 74, 75, 76, 77, 78, 79, 80, 81, 82, 83, 84, 85, 86, 87, 88, 89, 90, 91, 92, 93, 94, 95, 96, 97, 98, 99, 100, 101, 102, 103, 104, 105, 106, 107, 118, 119, 120] (by decide +kernel) (by decide +kernel)
set_option maxRecDepth 20000 in
theorem gX4_holiday_Jx4a65c_add_9ea2d : GoodIn wsX4_holiday (wsV RX4 141 RJx4a65c yJx4a65c_add_9ea2d wsJx4a65c_add_9ea2d) := goodIn_app (goodIn_of _ (by decide +kernel)) ggX4_holiday_Jx4a65c_add_9ea2d
set_option maxRecDepth 20000 in
theorem ggX4_noHoliday_Jx4a65c_size_8abf5 : GoodIn wsX4_noHoliday wsJx4a65c_size_8abf5 := goodIn_r _ [8, 9, 39, 40, 41] (by decide +kernel) (by decide +kernel)
set_option maxRecDepth 20000 in
theorem gX4_noHoliday_Jx4a65c_size_8abf5 : GoodIn wsX4_noHoliday (wsV RX4 132 RJx4a65c yJx4a65c_size_8abf5 wsJx4a65c_size_8abf5) := goodIn_app (goodIn_of _ (by decide +kernel)) ggX4_noHoliday_Jx4a65c_size_8abf5
set_option maxRecDepth 20000 in
theorem ggX4_noHoliday_Jx4a65c_remove_915e3 : GoodIn wsX4_noHoliday wsJx4a65c_remove_915e3 := goodIn_r _ [13, 9, 14, 15, 16, 17, 18, 19, 20, 21, 22, 23, 24, 25, 7, 26, 27, 28, 29, 30, 31, 32, 39, 40, 41] (by decide +kernel) (by decide +kernel)
set_option maxRecDepth 20000 in
theorem gX4_noHoliday_Jx4a65c_remove_915e3 : GoodIn wsX4_noHoliday (wsV RX4 148 RJx4a65c yJx4a65c_remove_915e3 wsJx4a65c_remove_915e3) := goodIn_app (goodIn_of _ (by decide +kernel)) ggX4_noHoliday_Jx4a65c_remove_915e3
set_option maxRecDepth 20000 in
theorem ggX4_isHoliday_X4_needSlot : GoodIn wsX4_isHoliday wsX4_needSlot := goodIn_ca (goodIn_r _ [6, 7, 8] (by decide +kernel) (by decide +kernel)) (goodIn_sub (fun _ h => List.mem_cons_of_mem _ (List.mem_append_left _ (List.mem_append_right _ h))) (by decide +kernel))
set_option maxRecDepth 20000 in
theorem gX4_isHoliday_X4_needSlot : GoodIn wsX4_isHoliday (va_wsS RX4 40 yX4_needSlot wsX4_needSlot) := goodIn_app (goodIn_of _ (by decide +kernel)) ggX4_isHoliday_X4_needSlot
set_option maxRecDepth 20000 in
theorem ggX4_isHoliday_X4_dateIn : GoodIn wsX4_isHoliday wsX4_dateIn := goodIn_ca (goodIn_r _ [12, 13, 14, 15, 106, 107, 108, 109, 110, 111] (by decide +kernel) (by decide +kernel)) (goodIn_sub (fun _ h => List.mem_cons_of_mem _ (List.mem_append_right _ h)) (by decide +kernel))
set_option maxRecDepth 20000 in
theorem gX4_isHoliday_X4_dateIn : GoodIn wsX4_isHoliday (wsV RX4 75 RX4 yX4_dateIn wsX4_dateIn) := goodIn_app (goodIn_of _ (by decide +kernel)) ggX4_isHoliday_X4_dateIn
set_option maxRecDepth 20000 in
theorem ggX4_isHoliday_Jx4a65c_size_8abf5 : GoodIn wsX4_isHoliday wsJx4a65c_size_8abf5 := goodIn_r _ [20, 21, 112, 113, 114] (by decide +kernel) (by decide +kernel)
set_option maxRecDepth 20000 in
theorem gX4_isHoliday_Jx4a65c_size_8abf5 : GoodIn wsX4_isHoliday (wsV RX4 132 RJx4a65c yJx4a65c_size_8abf5 wsJx4a65c_size_8abf5) := goodIn_app (goodIn_of _ (by decide +kernel)) ggX4_isHoliday_Jx4a65c_size_8abf5
set_option maxRecDepth 20000 in
theorem ggX4_isHoliday_Jx4a65c_get_915e3 : GoodIn wsX4_isHoliday wsJx4a65c_get_915e3 := goodIn_r _ [25, 21, 26, 27, 28, 29, 30, 31, 32, 33, 34, 35, 36, 19, 37, 38, 112, 113, 114] (by decide +kernel) (by decide +kernel)
set_option maxRecDepth 20000 in
theorem gX4_isHoliday_Jx4a65c_get_915e3 : GoodIn wsX4_isHoliday (wsV RX4 158 RJx4a65c yJx4a65c_get_915e3 wsJx4a65c_get_915e3) := goodIn_app (goodIn_of _ (by decide +kernel)) ggX4_isHoliday_Jx4a65c_get_915e3
set_option maxRecDepth 20000 in
theorem ggX4_isHoliday_X3_givesDay : GoodIn wsX4_isHoliday wsX3_givesDay := goodIn_r _ [43, 44, 45, 46, 47, 48, 49, 50, 51, 52, 53, 54, 55, 56, 42, 57, 58, 59, 60, 61, 62, 63, 64, 65, 66, 67, 68, 69, 70, 71, 72, 73, 74, 75, 76, 77, 78, 79, 80, 81, 82, 83, 84, 85, 86, 87, 88, 89, 90, 91, 92, 93, 94, 95, 96, 97, 98, 99, 100, 101, 102, 103, 104, 105, 115, 116, 117, 118] (by decide +kernel) (by decide +kernel)
set_option maxRecDepth 20000 in
theorem gX4_isHoliday_X3_givesDay : GoodIn wsX4_isHoliday (wsV RX4 161 RX3 yX3_givesDay wsX3_givesDay) := goodIn_app (goodIn_of _ (by decide +kernel)) ggX4_isHoliday_X3_givesDay
set_option maxRecDepth 20000 in
theorem ggX4_work_X4_needSlot : GoodIn wsX4_work wsX4_needSlot := goodIn_ca (goodIn_r _ [17, 18, 19] (by decide +kernel) (by decide +kernel)) (goodIn_sub (fun _ h => List.mem_cons_of_mem _ (List.mem_append_left _ (List.mem_append_right _ h))) (by decide +kernel))
set_option maxRecDepth 20000 in
theorem gX4_work_X4_needSlot : GoodIn wsX4_work (va_wsS RX4 40 yX4_needSlot wsX4_needSlot) := goodIn_app (goodIn_of _ (by decide +kernel)) ggX4_work_X4_needSlot
set_option maxRecDepth 20000 in
theorem ggX4_work_X4_dateIn : GoodIn wsX4_work wsX4_dateIn := goodIn_ca (goodIn_r _ [23, 24, 25, 26, 151, 152, 153, 154, 155, 156] (by decide +kernel) (by decide +kernel)) (goodIn_sub (fun _ h => List.mem_cons_of_mem _ (List.mem_append_right _ h)) (by decide +kernel))
set_option maxRecDepth 20000 in
theorem gX4_work_X4_dateIn : GoodIn wsX4_work (wsV RX4 75 RX4 yX4_dateIn wsX4_dateIn) := goodIn_app (goodIn_of _ (by decide +kernel)) ggX4_work_X4_dateIn
set_option maxRecDepth 20000 in
theorem ggX4_work_X2_forget : GoodIn wsX4_work wsX2_forget := goodIn_r _ [31, 32, 157, 158, 159] (by decide +kernel) (by decide +kernel)
set_option maxRecDepth 20000 in
theorem gX4_work_X2_forget : GoodIn wsX4_work (wsV RX4 174 RX2 yX2_forget wsX2_forget) := goodIn_app (goodIn_of _ (by decide +kernel)) ggX4_work_X2_forget
set_option maxRecDepth 20000 in
theorem ggX4_work_X4_isWorking : GoodIn wsX4_work wsX4_isWorking := goodIn_r _ [36, 37, 10, 38, 39, 40, 41, 42, 43, 44, 45, 30, 46, 47, 32, 48, 49, 50, 51, 52, 53, 12, 5, 13, 54, 55, 56, 57, 58, 59, 60, 61, 62, 63, 64, 65, 66, 67, 68, 69, 70, 71, 72, 73, 74, 75, 76, 77, 78, 79, 80, 81, 82, 83, 84, 85, 86, 87, 88, 89, 90, 91, 92, 93, 94, 95, 96, 97, 98, 99, 100, 101, 102, 103, 104, 105, 106, 107, 108, 109, 110, 111, 112, 113, 114, 115, 116, 117, 118, 119, 120, 121, 122, 123, 124, 125, 126, 127, 128, 129, 130, 131, 132, 133, 134, 135, 136, 137, 138, 139, 140, 141, 142, 143, 144, 145, 146, 147, 148, 149, 150, 151, 152, 153, 154, 155, 156, 157, 158, 159, 160, 161, 162, 163, 164, 165, 166] (by decide +kernel) (by decide +kernel)
set_option maxRecDepth 20000 in
theorem gX4_work_X4_isWorking : GoodIn wsX4_work (wsV RX4 180 RX4 yX4_isWorking wsX4_isWorking) := goodIn_app (goodIn_of _ (by decide +kernel)) ggX4_work_X4_isWorking
set_option maxRecDepth 20000 in
theorem ggX4_moveWork_X4_needSlot : GoodIn wsX4_moveWork wsX4_needSlot := goodIn_ca (goodIn_r _ [13, 14, 15] (by decide +kernel) (by decide +kernel)) (goodIn_sub (fun _ h => List.mem_cons_of_mem _ (List.mem_append_left _ (List.mem_append_right _ h))) (by decide +kernel))
set_option maxRecDepth 20000 in
theorem gX4_moveWork_X4_needSlot : GoodIn wsX4_moveWork (va_wsS RX4 40 yX4_needSlot wsX4_needSlot) := goodIn_app (goodIn_of _ (by decide +kernel)) ggX4_moveWork_X4_needSlot
set_option maxRecDepth 20000 in
theorem ggX4_moveWork_X4_dateIn : GoodIn wsX4_moveWork wsX4_dateIn := goodIn_ca (goodIn_r _ [19, 20, 21, 22, 157, 158, 159, 160, 161, 162] (by decide +kernel) (by decide +kernel)) (goodIn_sub (fun _ h => List.mem_cons_of_mem _ (List.mem_append_right _ h)) (by decide +kernel))
set_option maxRecDepth 20000 in
theorem gX4_moveWork_X4_dateIn : GoodIn wsX4_moveWork (wsV RX4 75 RX4 yX4_dateIn wsX4_dateIn) := goodIn_app (goodIn_of _ (by decide +kernel)) ggX4_moveWork_X4_dateIn
set_option maxRecDepth 20000 in
theorem ggX4_moveWork_X2_forget : GoodIn wsX4_moveWork wsX2_forget := goodIn_r _ [27, 28, 163, 164, 165] (by decide +kernel) (by decide +kernel)
set_option maxRecDepth 20000 in
theorem gX4_moveWork_X2_forget : GoodIn wsX4_moveWork (wsV RX4 174 RX2 yX2_forget wsX2_forget) := goodIn_app (goodIn_of _ (by decide +kernel)) ggX4_moveWork_X2_forget
set_option maxRecDepth 20000 in
theorem ggX4_moveWork_X0_isNumber : GoodIn wsX4_moveWork wsX0_isNumber := goodIn_r _ [32, 33] (by decide +kernel) (by decide +kernel)
set_option maxRecDepth 20000 in
theorem gX4_moveWork_X0_isNumber : GoodIn wsX4_moveWork (va_wsS RX4 54 yX0_isNumber wsX0_isNumber) := goodIn_app (goodIn_of _ (by decide +kernel)) ggX4_moveWork_X0_isNumber
set_option maxRecDepth 20000 in
theorem ggX4_moveWork_X4_isWorking : GoodIn wsX4_moveWork wsX4_isWorking := goodIn_r _ [37, 38, 9, 39, 40, 41, 31, 42, 43, 44, 45, 26, 46, 47, 28, 48, 49, 50, 51, 52, 53, 54, 7, 55, 56, 57, 58, 59, 60, 61, 62, 63, 64, 65, 66, 67, 68, 69, 70, 71, 72, 73, 74, 75, 76, 77, 78, 79, 80, 81, 82, 83, 84, 85, 86, 87, 88, 89, 90, 91, 92, 93, 94, 95, 96, 97, 98, 99, 100, 101, 102, 103, 104, 105, 106, 107, 108, 109, 110, 111, 112, 113, 114, 115, 116, 117, 118, 119, 120, 121, 122, 123, 124, 125, 126, 127, 128, 129, 130, 131, 132, 133, 134, 135, 136, 137, 138, 139, 140, 141, 142, 143, 144, 145, 146, 147, 148, 149, 150, 151, 152, 157, 158, 159, 160, 161, 162, 163, 164, 165, 166, 167, 168, 169, 170, 171, 172] (by decide +kernel) (by decide +kernel)
set_option maxRecDepth 20000 in
theorem gX4_moveWork_X4_isWorking : GoodIn wsX4_moveWork (wsV RX4 180 RX4 yX4_isWorking wsX4_isWorking) := goodIn_app (goodIn_of _ (by decide +kernel)) ggX4_moveWork_X4_isWorking
set_option maxRecDepth 20000 in
theorem ggX4_moveWork_X4_keep : GoodIn wsX4_moveWork wsX4_keep := goodIn_ca (goodIn_r _ [156, 1, 2, 22, 157, 158, 159, 160, 161, 162] (by decide +kernel) (by decide +kernel)) (goodIn_sub (fun _ h => List.mem_cons_of_mem _ (List.mem_append_left _ (List.mem_append_left _ (List.mem_append_left _ (List.mem_append_right _ h))))) (by decide +kernel))
set_option maxRecDepth 20000 in
theorem gX4_moveWork_X4_keep : GoodIn wsX4_moveWork (wsV RX4 50 RX4 yX4_keep wsX4_keep) := goodIn_app (goodIn_of _ (by decide +kernel)) ggX4_moveWork_X4_keep
set_option maxRecDepth 20000 in
theorem ggX4_write_X4_needSlot : GoodIn wsX4_write wsX4_needSlot := goodIn_ca (goodIn_r _ [7, 8, 9] (by decide +kernel) (by decide +kernel)) (goodIn_sub (fun _ h => List.mem_cons_of_mem _ (List.mem_append_left _ (List.mem_append_right _ h))) (by decide +kernel))
set_option maxRecDepth 20000 in
theorem gX4_write_X4_needSlot : GoodIn wsX4_write (va_wsS RX4 40 yX4_needSlot wsX4_needSlot) := goodIn_app (goodIn_of _ (by decide +kernel)) ggX4_write_X4_needSlot
set_option maxRecDepth 20000 in
theorem ggX4_write_X4_dateIn : GoodIn wsX4_write wsX4_dateIn := goodIn_ca (goodIn_r _ [13, 14, 15, 16, 92, 93, 94, 95, 96, 97] (by decide +kernel) (by decide +kernel)) (goodIn_sub (fun _ h => List.mem_cons_of_mem _ (List.mem_append_right _ h)) (by decide +kernel))
set_option maxRecDepth 20000 in
theorem gX4_write_X4_dateIn : GoodIn wsX4_write (wsV RX4 75 RX4 yX4_dateIn wsX4_dateIn) := goodIn_app (goodIn_of _ (by decide +kernel)) ggX4_write_X4_dateIn
set_option maxRecDepth 20000 in
theorem ggX4_write_X1_empty : GoodIn wsX4_write wsX1_empty := goodIn_r _ [21, 22, 98, 99] (by decide +kernel) (by decide +kernel)
set_option maxRecDepth 20000 in
theorem gX4_write_X1_empty : GoodIn wsX4_write (wsV RX4 187 RX1 yX1_empty wsX1_empty) := goodIn_app (goodIn_of _ (by decide +kernel)) ggX4_write_X1_empty
set_option maxRecDepth 20000 in
theorem ggX4_write_X4_putCivil : GoodIn wsX4_write wsX4_putCivil := goodIn_r _ [26, 3, 27, 28, 29, 30, 31, 32, 33, 34, 35, 36, 37, 38, 39, 20, 40, 41, 42, 43, 44, 22, 45, 46, 47, 48, 49, 50, 51, 52, 53, 54, 55, 56, 57, 58, 59, 60, 61, 62, 63, 92, 93, 94, 95, 96, 97, 98, 99] (by decide +kernel) (by decide +kernel)
set_option maxRecDepth 20000 in
theorem gX4_write_X4_putCivil : GoodIn wsX4_write (wsV RX4 190 RX4 yX4_putCivil wsX4_putCivil) := goodIn_app (goodIn_of _ (by decide +kernel)) ggX4_write_X4_putCivil
set_option maxRecDepth 20000 in
theorem ggX4_write_X4_putWeek : GoodIn wsX4_write wsX4_putWeek := goodIn_r _ [67, 3, 68, 69, 29, 70, 50, 28, 30, 31, 32, 33, 34, 35, 36, 37, 38, 39, 20, 40, 41, 42, 43, 44, 22, 45, 46, 71, 72, 73, 74, 75, 76, 77, 57, 58, 59, 78, 79, 80, 92, 93, 94, 95, 96, 97, 98, 99] (by decide +kernel) (by decide +kernel)
set_option maxRecDepth 20000 in
theorem gX4_write_X4_putWeek : GoodIn wsX4_write (wsV RX4 193 RX4 yX4_putWeek wsX4_putWeek) := goodIn_app (goodIn_of _ (by decide +kernel)) ggX4_write_X4_putWeek
set_option maxRecDepth 20000 in
theorem ggX4_write_X4_putYearDay : GoodIn wsX4_write wsX4_putYearDay := goodIn_r _ [84, 3, 27, 28, 29, 30, 31, 32, 33, 34, 35, 36, 37, 38, 39, 20, 40, 41, 42, 43, 44, 22, 45, 46, 85, 86, 87, 50, 57, 58, 59, 92, 93, 94, 95, 96, 97, 98, 99] (by decide +kernel) (by decide +kernel)
set_option maxRecDepth 20000 in
theorem gX4_write_X4_putYearDay : GoodIn wsX4_write (wsV RX4 196 RX4 yX4_putYearDay wsX4_putYearDay) := goodIn_app (goodIn_of _ (by decide +kernel)) ggX4_write_X4_putYearDay
set_option maxRecDepth 20000 in
theorem ggX4_write_X1_size : GoodIn wsX4_write wsX1_size := goodIn_r _ [91, 22, 98, 99] (by decide +kernel) (by decide +kernel)
set_option maxRecDepth 20000 in
theorem gX4_write_X1_size : GoodIn wsX4_write (wsV RX4 199 RX1 yX1_size wsX1_size) := goodIn_app (goodIn_of _ (by decide +kernel)) ggX4_write_X1_size
set_option maxRecDepth 20000 in
theorem ggX4_charAt_X1_size : GoodIn wsX4_charAt wsX1_size := goodIn_r _ [8, 9, 21, 22] (by decide +kernel) (by decide +kernel)
set_option maxRecDepth 20000 in
theorem gX4_charAt_X1_size : GoodIn wsX4_charAt (wsV RX4 199 RX1 yX1_size wsX1_size) := goodIn_app (goodIn_of _ (by decide +kernel)) ggX4_charAt_X1_size
set_option maxRecDepth 20000 in
theorem ggX4_charAt_X1_at : GoodIn wsX4_charAt wsX1_at := goodIn_r _ [13, 9, 14, 21, 22] (by decide +kernel) (by decide +kernel)
set_option maxRecDepth 20000 in
theorem gX4_charAt_X1_at : GoodIn wsX4_charAt (wsV RX4 202 RX1 yX1_at wsX1_at) := goodIn_app (goodIn_of _ (by decide +kernel)) ggX4_charAt_X1_at
set_option maxRecDepth 20000 in
theorem ggX4_type_X1_isFull : GoodIn wsX4_type wsX1_isFull := goodIn_r _ [10, 11, 27, 28] (by decide +kernel) (by decide +kernel)
set_option maxRecDepth 20000 in
theorem gX4_type_X1_isFull : GoodIn wsX4_type (wsV RX4 207 RX1 yX1_isFull wsX1_isFull) := goodIn_app (goodIn_of _ (by decide +kernel)) ggX4_type_X1_isFull
set_option maxRecDepth 20000 in
theorem ggX4_type_X1_add : GoodIn wsX4_type wsX1_add := goodIn_r _ [15, 11, 16, 27, 28] (by decide +kernel) (by decide +kernel)
set_option maxRecDepth 20000 in
theorem gX4_type_X1_add : GoodIn wsX4_type (wsV RX4 213 RX1 yX1_add wsX1_add) := goodIn_app (goodIn_of _ (by decide +kernel)) ggX4_type_X1_add
set_option maxRecDepth 20000 in
theorem ggX4_type_X1_size : GoodIn wsX4_type wsX1_size := goodIn_r _ [20, 11, 27, 28] (by decide +kernel) (by decide +kernel)
set_option maxRecDepth 20000 in
theorem gX4_type_X1_size : GoodIn wsX4_type (wsV RX4 199 RX1 yX1_size wsX1_size) := goodIn_app (goodIn_of _ (by decide +kernel)) ggX4_type_X1_size
set_option maxRecDepth 20000 in
theorem ggX4_read_X4_needSlot : GoodIn wsX4_read wsX4_needSlot := goodIn_ca (goodIn_r _ [6, 7, 8] (by decide +kernel) (by decide +kernel)) (goodIn_sub (fun _ h => List.mem_cons_of_mem _ (List.mem_append_right _ h)) (by decide +kernel))
set_option maxRecDepth 20000 in
theorem gX4_read_X4_needSlot : GoodIn wsX4_read (va_wsS RX4 40 yX4_needSlot wsX4_needSlot) := goodIn_app (goodIn_of _ (by decide +kernel)) ggX4_read_X4_needSlot
